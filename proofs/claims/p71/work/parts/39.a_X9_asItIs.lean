abbrev qg_X9_asItIs (h : PH)  : Option PV → PH → Prop := fun r h' => INV h' ∧ FR [96, 103, 104, 105, 106] h h' ∧ ((h'.1 96 42).toInt = (h.1 96 42).toInt ∧ (AIS h') ∧ ((h'.1 96 18).toInt = (h.1 97 5).toInt) ∧ ((h'.1 96 19).toInt = (h.1 97 1).toInt) ∧ True) ∧ r = none
set_option maxHeartbeats 4000000 in
set_option maxRecDepth 100000 in
theorem g_X9_asItIs (h : PH) (hI : INV h)  : CALL d_X9_asItIs [.inr (.inr (.inl 96))] h (qg_X9_asItIs h) := by
  show RUN d_X9_asItIs 0 [(0, .inr (.inr (.inl 96)))] [] h _
  have fr : FR [96, 103, 104, 105, 106] h h := FR.rf _ _
  have b1 : (0 : Int) ≤ (h.1 97 5).toInt ∧ (h.1 97 5).toInt ≤ 6 := hI.1 97 5
  have b2 : (0 : Int) ≤ (h.1 97 0).toInt ∧ (h.1 97 0).toInt ≤ 60 := hI.1 97 0
  have e3 : 0 < (h.1 97 5).toInt → 1 ≤ (h.1 97 0).toInt := hI.2.2.2.2.2.1.2.2
  have b4 : (0 : Int) ≤ (h.1 97 1).toInt ∧ (h.1 97 1).toInt ≤ 8 := hI.1 97 1
  have b5 : (0 : Int) ≤ (h.1 96 18).toInt ∧ (h.1 96 18).toInt ≤ 6 := hI.1 96 18
  refine R_iconst 0 rfl rfl ?_
  refine R_istore_n (k := 1) rfl [(1, .inl 0), (0, .inr (.inr (.inl 96)))] rfl rfl (by decide) ?_
  have lp7 : ∀ (n6 : Nat) (h8 : PH) (x10 : Int32), INV h8 → FR [96, 103, 104, 105, 106] h h8 → FR [96, 103, 104, 105, 106] h h8 → 0 ≤ x10.toInt ∧ x10.toInt ≤ 6 → (h8.1 96 42).toInt = (h.1 96 42).toInt → 0 ≤ (h8.1 96 18).toInt ∧ (h8.1 96 18).toInt ≤ 6 → True → (∀ j : Nat, (j : Int) < x10.toInt → (0 ≤ (h8.1 103 j).toInt ∧ (h8.1 103 j).toInt ≤ 6) ∧ (h8.1 105 j).toInt = (j : Int)) → (6 - x10.toInt).toNat < n6 → RUN d_X9_asItIs 2 [(1, .inl x10), (0, .inr (.inr (.inl 96)))] [] h8 (qg_X9_asItIs h) := by
    intro n6
    induction n6 with
    | zero => intro h8 x10 m12 m13 m14 m15 m16 m17 m18 m19 hz; exact absurd hz (Nat.not_lt_zero _)
    | succ n6 ih11 =>
      intro h8 x10 hI fr fl9 m15 m16 m17 m18 m19 hz
      have s20 : (h8.1 97 5).toInt = (h.1 97 5).toInt := by rw [(fl9 97 (by decide)).1]
      have s21 : (h8.1 97 0).toInt = (h.1 97 0).toInt := by rw [(fl9 97 (by decide)).1]
      have s22 : (h8.1 97 1).toInt = (h.1 97 1).toInt := by rw [(fl9 97 (by decide)).1]
      refine R_iload_n (k := 1) rfl rfl rfl ?_
      refine R_bipush 6 rfl rfl ?_
      refine N_icmp_ge (a := x10.toInt) (b := 6) 38 rfl rfl rfl (by decide) (fun c23 => ?_) (fun c23 => ?_)
      · have hA : AIS h8 := fun j hj => m19 j (by omega)
        refine R_iconst 0 rfl rfl ?_
        refine R_istore_n (k := 1) rfl [(1, .inl 0), (0, .inr (.inr (.inl 96)))] rfl rfl (by decide) ?_
        have lp25 : ∀ (n24 : Nat) (h26 : PH) (x28 : Int32), INV h26 → FR [96, 103, 104, 105, 106] h h26 → FR [96, 103, 104, 106] h8 h26 → 0 ≤ x28.toInt ∧ x28.toInt ≤ 360 → (h26.1 96 42).toInt = (h8.1 96 42).toInt → 0 ≤ (h26.1 96 18).toInt ∧ (h26.1 96 18).toInt ≤ 6 → True → (AIS h26) → (360 - x28.toInt).toNat < n24 → RUN d_X9_asItIs 40 [(1, .inl x28), (0, .inr (.inr (.inl 96)))] [] h26 (qg_X9_asItIs h) := by
          intro n24
          induction n24 with
          | zero => intro h26 x28 m30 m31 m32 m33 m34 m35 m36 m37 hz; exact absurd hz (Nat.not_lt_zero _)
          | succ n24 ih29 =>
            intro h26 x28 hI fr fl27 m33 m34 m35 m36 m37 hz
            have s38 : (h26.1 97 5).toInt = (h8.1 97 5).toInt := by rw [(fl27 97 (by decide)).1]
            have s39 : (h26.1 97 0).toInt = (h8.1 97 0).toInt := by rw [(fl27 97 (by decide)).1]
            have s40 : (h26.1 97 1).toInt = (h8.1 97 1).toInt := by rw [(fl27 97 (by decide)).1]
            have fl9 : FR [96, 103, 104, 105, 106] h h26 := fl9.trans fl27 (by decide)
            have hA := m37
            refine R_iload_n (k := 1) rfl rfl rfl ?_
            refine R_sipush 360 rfl rfl ?_
            refine N_icmp_ge (a := x28.toInt) (b := 360) 60 rfl rfl rfl (by decide) (fun c41 => ?_) (fun c41 => ?_)
            · refine R_iconst 0 rfl rfl ?_
              refine R_istore_n (k := 1) rfl [(1, .inl 0), (0, .inr (.inr (.inl 96)))] rfl rfl (by decide) ?_
              have lp43 : ∀ (n42 : Nat) (h44 : PH) (x46 : Int32), INV h44 → FR [96, 103, 104, 105, 106] h h44 → FR [96, 103, 104, 106] h26 h44 → 0 ≤ x46.toInt ∧ x46.toInt ≤ 60 → (h44.1 96 42).toInt = (h26.1 96 42).toInt → 0 ≤ (h44.1 96 18).toInt ∧ (h44.1 96 18).toInt ≤ 6 → True → (AIS h44) → (60 - x46.toInt).toNat < n42 → RUN d_X9_asItIs 62 [(1, .inl x46), (0, .inr (.inr (.inl 96)))] [] h44 (qg_X9_asItIs h) := by
                intro n42
                induction n42 with
                | zero => intro h44 x46 m48 m49 m50 m51 m52 m53 m54 m55 hz; exact absurd hz (Nat.not_lt_zero _)
                | succ n42 ih47 =>
                  intro h44 x46 hI fr fl45 m51 m52 m53 m54 m55 hz
                  have s56 : (h44.1 97 5).toInt = (h26.1 97 5).toInt := by rw [(fl45 97 (by decide)).1]
                  have s57 : (h44.1 97 0).toInt = (h26.1 97 0).toInt := by rw [(fl45 97 (by decide)).1]
                  have s58 : (h44.1 97 1).toInt = (h26.1 97 1).toInt := by rw [(fl45 97 (by decide)).1]
                  have fl27 : FR [96, 103, 104, 106] h8 h44 := fl27.trans fl45 (by decide)
                  have fl9 : FR [96, 103, 104, 105, 106] h h44 := fl9.trans fl45 (by decide)
                  have hA := m55
                  refine R_iload_n (k := 1) rfl rfl rfl ?_
                  refine R_bipush 60 rfl rfl ?_
                  refine N_icmp_ge (a := x46.toInt) (b := 60) 81 rfl rfl rfl (by decide) (fun c59 => ?_) (fun c59 => ?_)
                  · refine R_aload_n (k := 0) rfl rfl rfl ?_
                    refine R_aload_n (k := 0) rfl rfl rfl ?_
                    refine R_callV (v := .inr (.inr (.inl 96))) (As := []) (rest := [.inr (.inr (.inl 96))]) rfl mt_9_i133 pp_X9_hands (by decide) rfl rfl rfl (Nat.le_of_ble_eq_true rfl) (Nat.le_of_ble_eq_true rfl) ((k_X9_hands h44 hI).mono (fun r60 h61 p62 => ?_))
                    obtain ⟨rfl, x63, rfl, q64⟩ := p62
                    show RUN d_X9_asItIs 86 [(1, .inl x46), (0, .inr (.inr (.inl 96)))] [.inl x63, .inr (.inr (.inl 96))] h44 _
                    refine K_putf (j := 18) (lo := 0) (hi' := 6) rfl ft_9_253 sh_96 rfl hI (by decide) rfl (by omega) fr (by decide) (fun h65 g66 hI fr => ?_)
                    have fl45 : FR [96, 103, 104, 106] h26 h65 := by rw [g66]; exact FR_wI _ _ fl45 (by decide)
                    have fl27 : FR [96, 103, 104, 106] h8 h65 := by rw [g66]; exact FR_wI _ _ fl27 (by decide)
                    have fl9 : FR [96, 103, 104, 105, 106] h h65 := by rw [g66]; exact FR_wI _ _ fl9 (by decide)
                    have s67 : (h65.1 96 42).toInt = (h44.1 96 42).toInt := by rw [g66, wI_at (by decide)]
                    have s68 : (h65.1 97 5).toInt = (h44.1 97 5).toInt := by rw [g66, wI_ne _ _ _ (by decide)]
                    have s69 : (h65.1 97 0).toInt = (h44.1 97 0).toInt := by rw [g66, wI_ne _ _ _ (by decide)]
                    have s70 : (h65.1 97 1).toInt = (h44.1 97 1).toInt := by rw [g66, wI_ne _ _ _ (by decide)]
                    have s71 : (h65.1 96 19).toInt = (h44.1 96 19).toInt := by rw [g66, wI_at (by decide)]
                    have hA : AIS h65 := by rw [g66]; exact AIS_o (by decide) hA
                    have s72 : (h65.1 96 18).toInt = x63.toInt := by rw [g66, wI_is]
                    refine R_aload_n (k := 0) rfl rfl rfl ?_
                    refine R_aload_n (k := 0) rfl rfl rfl ?_
                    refine R_getf_r (j := 1) rfl ft_9_9 sh_96 rfl ?_
                    refine R_iconst 1 rfl rfl ?_
                    refine R_iald rfl sh_97 (by decide) ?_
                    show RUN d_X9_asItIs 96 [(1, .inl x46), (0, .inr (.inr (.inl 96)))] [.inl (h65.1 97 1), .inr (.inr (.inl 96))] h65 _
                    refine K_putf (j := 19) (lo := (-2147483648)) (hi' := 2147483647) rfl ft_9_256 sh_96 rfl hI (by decide) rfl (i_rng _) fr (by decide) (fun h73 g74 hI fr => ?_)
                    have fl45 : FR [96, 103, 104, 106] h26 h73 := by rw [g74]; exact FR_wI _ _ fl45 (by decide)
                    have fl27 : FR [96, 103, 104, 106] h8 h73 := by rw [g74]; exact FR_wI _ _ fl27 (by decide)
                    have fl9 : FR [96, 103, 104, 105, 106] h h73 := by rw [g74]; exact FR_wI _ _ fl9 (by decide)
                    have s75 : (h73.1 96 42).toInt = (h65.1 96 42).toInt := by rw [g74, wI_at (by decide)]
                    have s76 : (h73.1 97 5).toInt = (h65.1 97 5).toInt := by rw [g74, wI_ne _ _ _ (by decide)]
                    have s77 : (h73.1 97 0).toInt = (h65.1 97 0).toInt := by rw [g74, wI_ne _ _ _ (by decide)]
                    have s78 : (h73.1 97 1).toInt = (h65.1 97 1).toInt := by rw [g74, wI_ne _ _ _ (by decide)]
                    have s79 : (h73.1 96 18).toInt = (h65.1 96 18).toInt := by rw [g74, wI_at (by decide)]
                    have hA : AIS h73 := by rw [g74]; exact AIS_o (by decide) hA
                    have s80 : (h73.1 96 19).toInt = (h65.1 97 1).toInt := by rw [g74, wI_is]
                    refine R_aload_n (k := 0) rfl rfl rfl ?_
                    refine R_aload_n (k := 0) rfl rfl rfl ?_
                    refine R_getf_r (j := 1) rfl ft_9_9 sh_96 rfl ?_
                    refine R_iconst 2 rfl rfl ?_
                    refine R_iald rfl sh_97 (by decide) ?_
                    show RUN d_X9_asItIs 106 [(1, .inl x46), (0, .inr (.inr (.inl 96)))] [.inl (h73.1 97 2), .inr (.inr (.inl 96))] h73 _
                    refine K_putf (j := 20) (lo := (-2147483648)) (hi' := 2147483647) rfl ft_9_259 sh_96 rfl hI (by decide) rfl (i_rng _) fr (by decide) (fun h81 g82 hI fr => ?_)
                    have fl45 : FR [96, 103, 104, 106] h26 h81 := by rw [g82]; exact FR_wI _ _ fl45 (by decide)
                    have fl27 : FR [96, 103, 104, 106] h8 h81 := by rw [g82]; exact FR_wI _ _ fl27 (by decide)
                    have fl9 : FR [96, 103, 104, 105, 106] h h81 := by rw [g82]; exact FR_wI _ _ fl9 (by decide)
                    have s83 : (h81.1 96 42).toInt = (h73.1 96 42).toInt := by rw [g82, wI_at (by decide)]
                    have s84 : (h81.1 97 5).toInt = (h73.1 97 5).toInt := by rw [g82, wI_ne _ _ _ (by decide)]
                    have s85 : (h81.1 97 0).toInt = (h73.1 97 0).toInt := by rw [g82, wI_ne _ _ _ (by decide)]
                    have s86 : (h81.1 97 1).toInt = (h73.1 97 1).toInt := by rw [g82, wI_ne _ _ _ (by decide)]
                    have s87 : (h81.1 96 18).toInt = (h73.1 96 18).toInt := by rw [g82, wI_at (by decide)]
                    have s88 : (h81.1 96 19).toInt = (h73.1 96 19).toInt := by rw [g82, wI_at (by decide)]
                    have s89 : (h81.1 97 2).toInt = (h73.1 97 2).toInt := by rw [g82, wI_ne _ _ _ (by decide)]
                    have hA : AIS h81 := by rw [g82]; exact AIS_o (by decide) hA
                    have s90 : (h81.1 96 20).toInt = (h73.1 97 2).toInt := by rw [g82, wI_is]
                    refine R_iconst 0 rfl rfl ?_
                    refine R_istore_n (k := 1) rfl [(1, .inl 0), (0, .inr (.inr (.inl 96)))] rfl rfl (by decide) ?_
                    have lp92 : ∀ (n91 : Nat) (h93 : PH) (x95 : Int32), INV h93 → FR [96, 103, 104, 105, 106] h h93 → FR [103, 104] h81 h93 → 0 ≤ x95.toInt ∧ x95.toInt ≤ 30 → (AIS h93) → (30 - x95.toInt).toNat < n91 → RUN d_X9_asItIs 111 [(1, .inl x95), (0, .inr (.inr (.inl 96)))] [] h93 (qg_X9_asItIs h) := by
                      intro n91
                      induction n91 with
                      | zero => intro h93 x95 m97 m98 m99 m100 m101 hz; exact absurd hz (Nat.not_lt_zero _)
                      | succ n91 ih96 =>
                        intro h93 x95 hI fr fl94 m100 m101 hz
                        have s102 : (h93.1 96 42).toInt = (h81.1 96 42).toInt := by rw [(fl94 96 (by decide)).1]
                        have s103 : (h93.1 97 5).toInt = (h81.1 97 5).toInt := by rw [(fl94 97 (by decide)).1]
                        have s104 : (h93.1 97 0).toInt = (h81.1 97 0).toInt := by rw [(fl94 97 (by decide)).1]
                        have s105 : (h93.1 97 1).toInt = (h81.1 97 1).toInt := by rw [(fl94 97 (by decide)).1]
                        have s106 : (h93.1 96 18).toInt = (h81.1 96 18).toInt := by rw [(fl94 96 (by decide)).1]
                        have s107 : (h93.1 96 19).toInt = (h81.1 96 19).toInt := by rw [(fl94 96 (by decide)).1]
                        have s108 : (h93.1 97 2).toInt = (h81.1 97 2).toInt := by rw [(fl94 97 (by decide)).1]
                        have s109 : (h93.1 96 20).toInt = (h81.1 96 20).toInt := by rw [(fl94 96 (by decide)).1]
                        have fl45 : FR [96, 103, 104, 106] h26 h93 := fl45.trans fl94 (by decide)
                        have fl27 : FR [96, 103, 104, 106] h8 h93 := fl27.trans fl94 (by decide)
                        have fl9 : FR [96, 103, 104, 105, 106] h h93 := fl9.trans fl94 (by decide)
                        have hA := m101
                        refine R_iload_n (k := 1) rfl rfl rfl ?_
                        refine R_aload_n (k := 0) rfl rfl rfl ?_
                        refine R_getf_r (j := 1) rfl ft_9_9 sh_96 rfl ?_
                        refine R_bipush 9 rfl rfl ?_
                        refine R_iald rfl sh_97 (by decide) ?_
                        have b110 : (0 : Int) ≤ (h93.1 97 9).toInt ∧ (h93.1 97 9).toInt ≤ 30 := hI.1 97 9
                        show RUN d_X9_asItIs 119 [(1, .inl x95), (0, .inr (.inr (.inl 96)))] [.inl (h93.1 97 9), .inl x95] h93 _
                        refine N_icmp_ge (a := x95.toInt) (b := (h93.1 97 9).toInt) 222 rfl rfl rfl rfl (fun c111 => ?_) (fun c111 => ?_)
                        · exact R_vret rfl rfl ⟨hI, fr, ⟨by omega, hA, by omega, by omega, trivial⟩, rfl⟩
                        · refine R_aload_n (k := 0) rfl rfl rfl ?_
                          refine R_getf_r (j := 1) rfl ft_9_9 sh_96 rfl ?_
                          refine R_bipush 38 rfl rfl ?_
                          refine R_iload_n (k := 1) rfl rfl rfl ?_
                          refine R_iadd rfl ?_
                          refine N_eq (fun x112 e113 => ?_)
                          have q114 : x112.toInt = 38 + x95.toInt := by rw [e113]; exact i_add (by decide) rfl (by omega)
                          refine R_iald rfl sh_97 ⟨by omega, by omega⟩ ?_
                          refine N_bd2 (act_at hI (i := x112) (b := x95.toInt) (by omega) (by omega)) (fun x115 q116 => ?_)
                          refine R_istore_n (k := 2) rfl [(2, .inl x115), (1, .inl x95), (0, .inr (.inr (.inl 96)))] rfl rfl (by decide) ?_
                          refine R_iload_n (k := 2) rfl rfl rfl ?_
                          refine R_sipush 10000 rfl rfl ?_
                          refine N_icmp_ge (a := x115.toInt) (b := 10000) 157 rfl rfl rfl (by decide) (fun c117 => ?_) (fun c117 => ?_)
                          · refine R_iload_n (k := 2) rfl rfl rfl ?_
                            refine R_sipush 10000 rfl rfl ?_
                            refine R_idiv rfl (by decide) ?_
                            refine N_eq (fun x118 e119 => ?_)
                            have q120 : x118.toInt = x115.toInt / 10000 := by rw [e119]; exact i_div rfl (by decide) (by omega) (by omega)
                            refine R_iconst 1 rfl rfl ?_
                            refine R_isub rfl ?_
                            refine N_eq (fun x121 e122 => ?_)
                            have q123 : x121.toInt = x118.toInt - 1 := by rw [e122]; exact i_sub rfl (by decide) (by omega)
                            refine R_istore_n (k := 3) rfl [(3, .inl x121), (2, .inl x115), (1, .inl x95), (0, .inr (.inr (.inl 96)))] rfl rfl (by decide) ?_
                            refine R_iload_n (k := 2) rfl rfl rfl ?_
                            refine R_bipush 100 rfl rfl ?_
                            refine R_idiv rfl (by decide) ?_
                            refine N_eq (fun x124 e125 => ?_)
                            have q126 : x124.toInt = x115.toInt / 100 := by rw [e125]; exact i_div rfl (by decide) (by omega) (by omega)
                            refine R_bipush 100 rfl rfl ?_
                            refine R_irem rfl (by decide) ?_
                            refine N_eq (fun x127 e128 => ?_)
                            have q129 : x127.toInt = x124.toInt % 100 := by rw [e128]; exact i_rem rfl (by decide) (by omega) (by omega)
                            refine R_istore (k := 4) [(4, .inl x127), (3, .inl x121), (2, .inl x115), (1, .inl x95), (0, .inr (.inr (.inl 96)))] rfl rfl (by decide) ?_
                            refine R_iload (k := 4) rfl rfl ?_
                            refine R_istore (k := 5) [(5, .inl x127), (4, .inl x127), (3, .inl x121), (2, .inl x115), (1, .inl x95), (0, .inr (.inr (.inl 96)))] rfl rfl (by decide) ?_
                            have lp131 : ∀ (n130 : Nat) (h132 : PH) (x134 : Int32), INV h132 → FR [96, 103, 104, 105, 106] h h132 → FR [104] h93 h132 → 0 ≤ x134.toInt ∧ x134.toInt ≤ 99 → x127.toInt ≤ x134.toInt + 0 → (AIS h132) → (99 - x134.toInt).toNat < n130 → RUN d_X9_asItIs 178 [(5, .inl x134), (4, .inl x127), (3, .inl x121), (2, .inl x115), (1, .inl x95), (0, .inr (.inr (.inl 96)))] [] h132 (qg_X9_asItIs h) := by
                              intro n130
                              induction n130 with
                              | zero => intro h132 x134 m136 m137 m138 m139 m140 m141 hz; exact absurd hz (Nat.not_lt_zero _)
                              | succ n130 ih135 =>
                                intro h132 x134 hI fr fl133 m139 m140 m141 hz
                                have s142 : (h132.1 96 42).toInt = (h93.1 96 42).toInt := by rw [(fl133 96 (by decide)).1]
                                have s143 : (h132.1 97 5).toInt = (h93.1 97 5).toInt := by rw [(fl133 97 (by decide)).1]
                                have s144 : (h132.1 97 0).toInt = (h93.1 97 0).toInt := by rw [(fl133 97 (by decide)).1]
                                have s145 : (h132.1 97 1).toInt = (h93.1 97 1).toInt := by rw [(fl133 97 (by decide)).1]
                                have s146 : (h132.1 96 18).toInt = (h93.1 96 18).toInt := by rw [(fl133 96 (by decide)).1]
                                have s147 : (h132.1 96 19).toInt = (h93.1 96 19).toInt := by rw [(fl133 96 (by decide)).1]
                                have s148 : (h132.1 97 2).toInt = (h93.1 97 2).toInt := by rw [(fl133 97 (by decide)).1]
                                have s149 : (h132.1 96 20).toInt = (h93.1 96 20).toInt := by rw [(fl133 96 (by decide)).1]
                                have s150 : (h132.1 97 9).toInt = (h93.1 97 9).toInt := by rw [(fl133 97 (by decide)).1]
                                have fl94 : FR [103, 104] h81 h132 := fl94.trans fl133 (by decide)
                                have fl45 : FR [96, 103, 104, 106] h26 h132 := fl45.trans fl133 (by decide)
                                have fl27 : FR [96, 103, 104, 106] h8 h132 := fl27.trans fl133 (by decide)
                                have fl9 : FR [96, 103, 104, 105, 106] h h132 := fl9.trans fl133 (by decide)
                                have hA := m141
                                refine R_iload (k := 5) rfl rfl ?_
                                refine R_iload (k := 4) rfl rfl ?_
                                refine R_iload_n (k := 2) rfl rfl rfl ?_
                                refine R_bipush 100 rfl rfl ?_
                                refine R_irem rfl (by decide) ?_
                                refine N_eq (fun x151 e152 => ?_)
                                have q153 : x151.toInt = x115.toInt % 100 := by rw [e152]; exact i_rem rfl (by decide) (by omega) (by omega)
                                refine R_iadd rfl ?_
                                refine N_eq (fun x154 e155 => ?_)
                                have q156 : x154.toInt = x127.toInt + x151.toInt := by rw [e155]; exact i_add rfl rfl (by omega)
                                refine N_icmp_ge (a := x134.toInt) (b := x154.toInt) 216 rfl rfl rfl rfl (fun c157 => ?_) (fun c157 => ?_)
                                · refine N_iinc (a := x95.toInt) (c := 1) (fun w => [(1, .inl w), (5, .inl x134), (4, .inl x127), (3, .inl x121), (2, .inl x115), (0, .inr (.inr (.inl 96)))]) rfl rfl (fun _ => rfl) (by decide) rfl (by decide) (by omega) (fun x158 q159 => ?_)
                                  refine R_goto 111 rfl rfl ?_
                                  exact RUN_weak (psub_cons rfl (psub_cons rfl (psub_nil _))) (ih96 h132 x158 hI fr fl94 (by omega) (hA) (by omega))
                                · refine R_iload (k := 5) rfl rfl ?_
                                  refine R_bipush 60 rfl rfl ?_
                                  refine N_icmp_ge (a := x134.toInt) (b := 60) 216 rfl rfl rfl (by decide) (fun c160 => ?_) (fun c160 => ?_)
                                  · refine N_iinc (a := x95.toInt) (c := 1) (fun w => [(1, .inl w), (5, .inl x134), (4, .inl x127), (3, .inl x121), (2, .inl x115), (0, .inr (.inr (.inl 96)))]) rfl rfl (fun _ => rfl) (by decide) rfl (by decide) (by omega) (fun x161 q162 => ?_)
                                    refine R_goto 111 rfl rfl ?_
                                    exact RUN_weak (psub_cons rfl (psub_cons rfl (psub_nil _))) (ih96 h132 x161 hI fr fl94 (by omega) (hA) (by omega))
                                  · refine R_aload_n (k := 0) rfl rfl rfl ?_
                                    refine R_getf_r (j := 16) rfl ft_9_37 sh_96 rfl ?_
                                    refine R_bipush 6 rfl rfl ?_
                                    refine R_iload (k := 5) rfl rfl ?_
                                    refine R_imul rfl ?_
                                    refine N_eq (fun x163 e164 => ?_)
                                    have q165 : x163.toInt = 6 * x134.toInt := by rw [e164]; exact i_mul (by decide) rfl (by omega)
                                    refine R_iload_n (k := 3) rfl rfl rfl ?_
                                    refine R_iadd rfl ?_
                                    refine N_eq (fun x166 e167 => ?_)
                                    have q168 : x166.toInt = x163.toInt + x121.toInt := by rw [e167]; exact i_add rfl rfl (by omega)
                                    refine R_iconst 1 rfl rfl ?_
                                    refine K_zast (a := x166.toInt) rfl sh_104 rfl ⟨by omega, by omega⟩ hI (by decide) rfl fr (by decide) (fun h169 g170 hI fr => ?_)
                                    have fl133 : FR [104] h93 h169 := by rw [g170]; exact FR_wI _ _ fl133 (by decide)
                                    have fl94 : FR [103, 104] h81 h169 := by rw [g170]; exact FR_wI _ _ fl94 (by decide)
                                    have fl45 : FR [96, 103, 104, 106] h26 h169 := by rw [g170]; exact FR_wI _ _ fl45 (by decide)
                                    have fl27 : FR [96, 103, 104, 106] h8 h169 := by rw [g170]; exact FR_wI _ _ fl27 (by decide)
                                    have fl9 : FR [96, 103, 104, 105, 106] h h169 := by rw [g170]; exact FR_wI _ _ fl9 (by decide)
                                    have s171 : (h169.1 96 42).toInt = (h132.1 96 42).toInt := by rw [g170, wI_ne _ _ _ (by decide)]
                                    have s172 : (h169.1 97 5).toInt = (h132.1 97 5).toInt := by rw [g170, wI_ne _ _ _ (by decide)]
                                    have s173 : (h169.1 97 0).toInt = (h132.1 97 0).toInt := by rw [g170, wI_ne _ _ _ (by decide)]
                                    have s174 : (h169.1 97 1).toInt = (h132.1 97 1).toInt := by rw [g170, wI_ne _ _ _ (by decide)]
                                    have s175 : (h169.1 96 18).toInt = (h132.1 96 18).toInt := by rw [g170, wI_ne _ _ _ (by decide)]
                                    have s176 : (h169.1 96 19).toInt = (h132.1 96 19).toInt := by rw [g170, wI_ne _ _ _ (by decide)]
                                    have s177 : (h169.1 97 2).toInt = (h132.1 97 2).toInt := by rw [g170, wI_ne _ _ _ (by decide)]
                                    have s178 : (h169.1 96 20).toInt = (h132.1 96 20).toInt := by rw [g170, wI_ne _ _ _ (by decide)]
                                    have s179 : (h169.1 97 9).toInt = (h132.1 97 9).toInt := by rw [g170, wI_ne _ _ _ (by decide)]
                                    have hA : AIS h169 := by rw [g170]; exact AIS_o (by decide) hA
                                    refine N_iinc (a := x134.toInt) (c := 1) (fun w => [(5, .inl w), (4, .inl x127), (3, .inl x121), (2, .inl x115), (1, .inl x95), (0, .inr (.inr (.inl 96)))]) rfl rfl (fun _ => rfl) (by decide) rfl (by decide) (by omega) (fun x180 q181 => ?_)
                                    refine R_goto 178 rfl rfl ?_
                                    exact RUN_weak (psub_cons rfl (psub_cons rfl (psub_cons rfl (psub_cons rfl (psub_cons rfl (psub_cons rfl (psub_nil _))))))) (ih135 h169 x180 hI fr fl133 (by omega) (by omega) (hA) (by omega))
                            exact lp131 _ h93 x127 hI fr (FR.rf _ _) (by omega) (by omega) (hA) (Nat.lt_succ_self _)
                          · refine R_aload_n (k := 0) rfl rfl rfl ?_
                            refine R_getf_r (j := 15) rfl ft_9_34 sh_96 rfl ?_
                            refine R_iload_n (k := 2) rfl rfl rfl ?_
                            refine R_bipush 100 rfl rfl ?_
                            refine R_idiv rfl (by decide) ?_
                            refine N_eq (fun x182 e183 => ?_)
                            have q184 : x182.toInt = x115.toInt / 100 := by rw [e183]; exact i_div rfl (by decide) (by omega) (by omega)
                            refine R_iconst 1 rfl rfl ?_
                            refine R_isub rfl ?_
                            refine N_eq (fun x185 e186 => ?_)
                            have q187 : x185.toInt = x182.toInt - 1 := by rw [e186]; exact i_sub rfl (by decide) (by omega)
                            refine R_iload_n (k := 2) rfl rfl rfl ?_
                            refine R_bipush 100 rfl rfl ?_
                            refine R_irem rfl (by decide) ?_
                            refine N_eq (fun x188 e189 => ?_)
                            have q190 : x188.toInt = x115.toInt % 100 := by rw [e189]; exact i_rem rfl (by decide) (by omega) (by omega)
                            refine K_iast (a := x185.toInt) (lo := (-2147483648)) (hi' := 2147483647) rfl sh_103 rfl ⟨by omega, by omega⟩ hI (by decide) rfl (i_rng _) fr (by decide) (fun h191 g192 hI fr => ?_)
                            have fl94 : FR [103, 104] h81 h191 := by rw [g192]; exact FR_wI _ _ fl94 (by decide)
                            have fl45 : FR [96, 103, 104, 106] h26 h191 := by rw [g192]; exact FR_wI _ _ fl45 (by decide)
                            have fl27 : FR [96, 103, 104, 106] h8 h191 := by rw [g192]; exact FR_wI _ _ fl27 (by decide)
                            have fl9 : FR [96, 103, 104, 105, 106] h h191 := by rw [g192]; exact FR_wI _ _ fl9 (by decide)
                            have s193 : (h191.1 96 42).toInt = (h93.1 96 42).toInt := by rw [g192, wI_ne _ _ _ (by decide)]
                            have s194 : (h191.1 97 5).toInt = (h93.1 97 5).toInt := by rw [g192, wI_ne _ _ _ (by decide)]
                            have s195 : (h191.1 97 0).toInt = (h93.1 97 0).toInt := by rw [g192, wI_ne _ _ _ (by decide)]
                            have s196 : (h191.1 97 1).toInt = (h93.1 97 1).toInt := by rw [g192, wI_ne _ _ _ (by decide)]
                            have s197 : (h191.1 96 18).toInt = (h93.1 96 18).toInt := by rw [g192, wI_ne _ _ _ (by decide)]
                            have s198 : (h191.1 96 19).toInt = (h93.1 96 19).toInt := by rw [g192, wI_ne _ _ _ (by decide)]
                            have s199 : (h191.1 97 2).toInt = (h93.1 97 2).toInt := by rw [g192, wI_ne _ _ _ (by decide)]
                            have s200 : (h191.1 96 20).toInt = (h93.1 96 20).toInt := by rw [g192, wI_ne _ _ _ (by decide)]
                            have s201 : (h191.1 97 9).toInt = (h93.1 97 9).toInt := by rw [g192, wI_ne _ _ _ (by decide)]
                            have hA : AIS h191 := by rw [g192]; exact AIS_103 (by omega) hA
                            refine R_goto 216 rfl rfl ?_
                            refine N_iinc (a := x95.toInt) (c := 1) (fun w => [(1, .inl w), (2, .inl x115), (0, .inr (.inr (.inl 96)))]) rfl rfl (fun _ => rfl) (by decide) rfl (by decide) (by omega) (fun x202 q203 => ?_)
                            refine R_goto 111 rfl rfl ?_
                            exact RUN_weak (psub_cons rfl (psub_cons rfl (psub_nil _))) (ih96 h191 x202 hI fr fl94 (by omega) (hA) (by omega))
                    have k204 : (0 : Int32).toInt = 0 := by decide
                    exact lp92 _ h81 (0 : Int32) hI fr (FR.rf _ _) (by decide) (hA) (Nat.lt_succ_self _)
                  · refine R_aload_n (k := 0) rfl rfl rfl ?_
                    refine R_getf_r (j := 21) rfl ft_9_43 sh_96 rfl ?_
                    refine R_iload_n (k := 1) rfl rfl rfl ?_
                    refine R_iconst 0 rfl rfl ?_
                    refine K_zast (a := x46.toInt) rfl sh_106 rfl ⟨by omega, by omega⟩ hI (by decide) rfl fr (by decide) (fun h205 g206 hI fr => ?_)
                    have fl45 : FR [96, 103, 104, 106] h26 h205 := by rw [g206]; exact FR_wI _ _ fl45 (by decide)
                    have fl27 : FR [96, 103, 104, 106] h8 h205 := by rw [g206]; exact FR_wI _ _ fl27 (by decide)
                    have fl9 : FR [96, 103, 104, 105, 106] h h205 := by rw [g206]; exact FR_wI _ _ fl9 (by decide)
                    have s207 : (h205.1 96 42).toInt = (h44.1 96 42).toInt := by rw [g206, wI_ne _ _ _ (by decide)]
                    have s208 : (h205.1 97 5).toInt = (h44.1 97 5).toInt := by rw [g206, wI_ne _ _ _ (by decide)]
                    have s209 : (h205.1 97 0).toInt = (h44.1 97 0).toInt := by rw [g206, wI_ne _ _ _ (by decide)]
                    have s210 : (h205.1 97 1).toInt = (h44.1 97 1).toInt := by rw [g206, wI_ne _ _ _ (by decide)]
                    have s211 : (h205.1 96 18).toInt = (h44.1 96 18).toInt := by rw [g206, wI_ne _ _ _ (by decide)]
                    have s212 : (h205.1 96 19).toInt = (h44.1 96 19).toInt := by rw [g206, wI_ne _ _ _ (by decide)]
                    have hA : AIS h205 := by rw [g206]; exact AIS_o (by decide) hA
                    refine N_iinc (a := x46.toInt) (c := 1) (fun w => [(1, .inl w), (0, .inr (.inr (.inl 96)))]) rfl rfl (fun _ => rfl) (by decide) rfl (by decide) (by omega) (fun x213 q214 => ?_)
                    refine R_goto 62 rfl rfl ?_
                    exact RUN_weak (psub_cons rfl (psub_cons rfl (psub_nil _))) (ih47 h205 x213 hI fr fl45 (by omega) (by omega) (by omega) trivial (hA) (by omega))
              have k215 : (0 : Int32).toInt = 0 := by decide
              exact lp43 _ h26 (0 : Int32) hI fr (FR.rf _ _) (by decide) rfl (by omega) trivial (hA) (Nat.lt_succ_self _)
            · refine R_aload_n (k := 0) rfl rfl rfl ?_
              refine R_getf_r (j := 16) rfl ft_9_37 sh_96 rfl ?_
              refine R_iload_n (k := 1) rfl rfl rfl ?_
              refine R_iconst 0 rfl rfl ?_
              refine K_zast (a := x28.toInt) rfl sh_104 rfl ⟨by omega, by omega⟩ hI (by decide) rfl fr (by decide) (fun h216 g217 hI fr => ?_)
              have fl27 : FR [96, 103, 104, 106] h8 h216 := by rw [g217]; exact FR_wI _ _ fl27 (by decide)
              have fl9 : FR [96, 103, 104, 105, 106] h h216 := by rw [g217]; exact FR_wI _ _ fl9 (by decide)
              have s218 : (h216.1 96 42).toInt = (h26.1 96 42).toInt := by rw [g217, wI_ne _ _ _ (by decide)]
              have s219 : (h216.1 97 5).toInt = (h26.1 97 5).toInt := by rw [g217, wI_ne _ _ _ (by decide)]
              have s220 : (h216.1 97 0).toInt = (h26.1 97 0).toInt := by rw [g217, wI_ne _ _ _ (by decide)]
              have s221 : (h216.1 97 1).toInt = (h26.1 97 1).toInt := by rw [g217, wI_ne _ _ _ (by decide)]
              have s222 : (h216.1 96 18).toInt = (h26.1 96 18).toInt := by rw [g217, wI_ne _ _ _ (by decide)]
              have s223 : (h216.1 96 19).toInt = (h26.1 96 19).toInt := by rw [g217, wI_ne _ _ _ (by decide)]
              have hA : AIS h216 := by rw [g217]; exact AIS_o (by decide) hA
              refine N_iinc (a := x28.toInt) (c := 1) (fun w => [(1, .inl w), (0, .inr (.inr (.inl 96)))]) rfl rfl (fun _ => rfl) (by decide) rfl (by decide) (by omega) (fun x224 q225 => ?_)
              refine R_goto 40 rfl rfl ?_
              exact RUN_weak (psub_cons rfl (psub_cons rfl (psub_nil _))) (ih29 h216 x224 hI fr fl27 (by omega) (by omega) (by omega) trivial (hA) (by omega))
        have k226 : (0 : Int32).toInt = 0 := by decide
        exact lp25 _ h8 (0 : Int32) hI fr (FR.rf _ _) (by decide) rfl (by omega) trivial (hA) (Nat.lt_succ_self _)
      · refine R_aload_n (k := 0) rfl rfl rfl ?_
        refine R_getf_r (j := 15) rfl ft_9_34 sh_96 rfl ?_
        refine R_iload_n (k := 1) rfl rfl rfl ?_
        refine R_aload_n (k := 0) rfl rfl rfl ?_
        refine R_getf_r (j := 1) rfl ft_9_9 sh_96 rfl ?_
        refine R_bipush 11 rfl rfl ?_
        refine R_iconst 2 rfl rfl ?_
        refine R_iload_n (k := 1) rfl rfl rfl ?_
        refine R_imul rfl ?_
        refine N_eq (fun x227 e228 => ?_)
        have q229 : x227.toInt = 2 * x10.toInt := by rw [e228]; exact i_mul (by decide) rfl (by omega)
        refine R_iadd rfl ?_
        refine N_eq (fun x230 e231 => ?_)
        have q232 : x230.toInt = 11 + x227.toInt := by rw [e231]; exact i_add (by decide) rfl (by omega)
        refine R_iald rfl sh_97 ⟨by omega, by omega⟩ ?_
        refine N_eq (fun x233 e234 => ?_)
        have qb234 : 0 ≤ x233.toInt ∧ x233.toInt ≤ 6 := by rw [e234]; exact pace_at hI (x := x10.toInt) (by omega) (by omega)
        refine K_iast (a := x10.toInt) (lo := (-2147483648)) (hi' := 2147483647) rfl sh_103 rfl ⟨by omega, by omega⟩ hI (by decide) rfl (i_rng _) fr (by decide) (fun h236 g237 hI fr => ?_)
        have fl9 : FR [96, 103, 104, 105, 106] h h236 := by rw [g237]; exact FR_wI _ _ fl9 (by decide)
        have s238 : (h236.1 96 42).toInt = (h8.1 96 42).toInt := by rw [g237, wI_ne _ _ _ (by decide)]
        have s239 : (h236.1 97 5).toInt = (h8.1 97 5).toInt := by rw [g237, wI_ne _ _ _ (by decide)]
        have s240 : (h236.1 97 0).toInt = (h8.1 97 0).toInt := by rw [g237, wI_ne _ _ _ (by decide)]
        have s241 : (h236.1 97 1).toInt = (h8.1 97 1).toInt := by rw [g237, wI_ne _ _ _ (by decide)]
        have s242 : (h236.1 96 18).toInt = (h8.1 96 18).toInt := by rw [g237, wI_ne _ _ _ (by decide)]
        have s243 : (h236.1 96 19).toInt = (h8.1 96 19).toInt := by rw [g237, wI_ne _ _ _ (by decide)]
        refine R_aload_n (k := 0) rfl rfl rfl ?_
        refine R_getf_r (j := 17) rfl ft_9_40 sh_96 rfl ?_
        refine R_iload_n (k := 1) rfl rfl rfl ?_
        refine R_iload_n (k := 1) rfl rfl rfl ?_
        refine K_iast (a := x10.toInt) (lo := 0) (hi' := 5) rfl sh_105 rfl ⟨by omega, by omega⟩ hI (by decide) rfl (by omega) fr (by decide) (fun h244 g245 hI fr => ?_)
        have fl9 : FR [96, 103, 104, 105, 106] h h244 := by rw [g245]; exact FR_wI _ _ fl9 (by decide)
        have s246 : (h244.1 96 42).toInt = (h236.1 96 42).toInt := by rw [g245, wI_ne _ _ _ (by decide)]
        have s247 : (h244.1 97 5).toInt = (h236.1 97 5).toInt := by rw [g245, wI_ne _ _ _ (by decide)]
        have s248 : (h244.1 97 0).toInt = (h236.1 97 0).toInt := by rw [g245, wI_ne _ _ _ (by decide)]
        have s249 : (h244.1 97 1).toInt = (h236.1 97 1).toInt := by rw [g245, wI_ne _ _ _ (by decide)]
        have s250 : (h244.1 96 18).toInt = (h236.1 96 18).toInt := by rw [g245, wI_ne _ _ _ (by decide)]
        have s251 : (h244.1 96 19).toInt = (h236.1 96 19).toInt := by rw [g245, wI_ne _ _ _ (by decide)]
        refine N_iinc (a := x10.toInt) (c := 1) (fun w => [(1, .inl w), (0, .inr (.inr (.inl 96)))]) rfl rfl (fun _ => rfl) (by decide) rfl (by decide) (by omega) (fun x252 q253 => ?_)
        refine R_goto 2 rfl rfl ?_
        exact RUN_weak (psub_cons rfl (psub_cons rfl (psub_nil _))) (ih11 h244 x252 hI fr fl9 (by omega) (by omega) (by omega) trivial (ais_step (x := x10) (x' := x252) g237 g245 m19 (by omega) (by omega) (by omega)) (by omega))
  have k254 : (0 : Int32).toInt = 0 := by decide
  exact lp7 _ h (0 : Int32) hI fr (FR.rf _ _) (by decide) rfl (by omega) trivial (fun j hj => absurd hj (by omega)) (Nat.lt_succ_self _)
