abbrev qg_X9_asItIs (h : PH)  : Option PV → PH → Prop := fun r h' => INV h' ∧ FR [96, 103, 104, 105, 106] h h' ∧ ((h'.1 96 42).toInt = (h.1 96 42).toInt ∧ (AIS h') ∧ ((h'.1 96 18).toInt = (h.1 97 5).toInt) ∧ ((h'.1 96 19).toInt = (h.1 97 1).toInt) ∧ True) ∧ r = none
set_option maxHeartbeats 4000000 in
set_option maxRecDepth 100000 in
theorem g_X9_asItIs (h : PH) (hI : INV h)  : CALL d_X9_asItIs [.inr (.inr (.inl 96))] h (qg_X9_asItIs h) := by
  show RUN d_X9_asItIs 0 [(0, .inr (.inr (.inl 96)))] [] h _
  have fr : FR [96, 103, 104, 105, 106] h h := FR.rf _ _
  have b1 : (0 : Int) ≤ (h.1 97 5).toInt ∧ (h.1 97 5).toInt ≤ 6 := hI.1 97 5
  have b2 : (0 : Int) ≤ (h.1 97 0).toInt ∧ (h.1 97 0).toInt ≤ 60 := hI.1 97 0
  have e3 : 0 < (h.1 97 5).toInt → 1 ≤ (h.1 97 0).toInt := hI.2.2.2.2.2.1.2.2
  have b4 : (0 : Int) ≤ (h.1 97 1).toInt ∧ (h.1 97 1).toInt ≤ 8 := hI.1 97 1
  have b5 : (0 : Int) ≤ (h.1 96 18).toInt ∧ (h.1 96 18).toInt ≤ 6 := hI.1 96 18
  refine R_iconst 0 rfl rfl ?_
  refine R_istore_n (k := 1) rfl [(1, .inl 0), (0, .inr (.inr (.inl 96)))] rfl rfl (by decide) ?_
  have lp7 : ∀ (n6 : Nat) (h8 : PH) (x10 : Int32), INV h8 → FR [96, 103, 104, 105, 106] h h8 → FR [96, 103, 104, 105, 106] h h8 → 0 ≤ x10.toInt ∧ x10.toInt ≤ 6 → (h8.1 96 42).toInt = (h.1 96 42).toInt → 0 ≤ (h8.1 96 18).toInt ∧ (h8.1 96 18).toInt ≤ 6 → True → (∀ j : Nat, (j : Int) < x10.toInt → (0 ≤ (h8.1 103 j).toInt ∧ (h8.1 103 j).toInt ≤ 6) ∧ (h8.1 105 j).toInt = (j : Int)) → (6 - x10.toInt).toNat < n6 → RUN d_X9_asItIs 2 [(1, .inl x10), (0, .inr (.inr (.inl 96)))] [] h8 (qg_X9_asItIs h) := by
    intro n6
    induction n6 with
    | zero => intro h8 x10 m12 m13 m14 m15 m16 m17 m18 m19 hz; exact absurd hz (Nat.not_lt_zero _)
    | succ n6 ih11 =>
      intro h8 x10 hI fr fl9 m15 m16 m17 m18 m19 hz
      have s20 : (h8.1 97 5).toInt = (h.1 97 5).toInt := by rw [(fl9 97 (by decide)).1]
      have s21 : (h8.1 97 0).toInt = (h.1 97 0).toInt := by rw [(fl9 97 (by decide)).1]
      have s22 : (h8.1 97 1).toInt = (h.1 97 1).toInt := by rw [(fl9 97 (by decide)).1]
      refine R_iload_n (k := 1) rfl rfl rfl ?_
      refine R_bipush 6 rfl rfl ?_
      refine N_icmp_ge (a := x10.toInt) (b := 6) 38 rfl rfl rfl (by decide) (fun c23 => ?_) (fun c23 => ?_)
      · have hA : AIS h8 := fun j hj => m19 j (by omega)
        refine R_iconst 0 rfl rfl ?_
        refine R_istore_n (k := 1) rfl [(1, .inl 0), (0, .inr (.inr (.inl 96)))] rfl rfl (by decide) ?_
        have lp25 : ∀ (n24 : Nat) (h26 : PH) (x28 : Int32), INV h26 → FR [96, 103, 104, 105, 106] h h26 → FR [96, 103, 104, 106] h8 h26 → 0 ≤ x28.toInt ∧ x28.toInt ≤ 360 → (h26.1 96 42).toInt = (h8.1 96 42).toInt → 0 ≤ (h26.1 96 18).toInt ∧ (h26.1 96 18).toInt ≤ 6 → True → (AIS h26) → (360 - x28.toInt).toNat < n24 → RUN d_X9_asItIs 40 [(1, .inl x28), (0, .inr (.inr (.inl 96)))] [] h26 (qg_X9_asItIs h) := by
          intro n24
          induction n24 with
          | zero => intro h26 x28 m30 m31 m32 m33 m34 m35 m36 m37 hz; exact absurd hz (Nat.not_lt_zero _)
          | succ n24 ih29 =>
            intro h26 x28 hI fr fl27 m33 m34 m35 m36 m37 hz
            have s38 : (h26.1 97 5).toInt = (h8.1 97 5).toInt := by rw [(fl27 97 (by decide)).1]
            have s39 : (h26.1 97 0).toInt = (h8.1 97 0).toInt := by rw [(fl27 97 (by decide)).1]
            have s40 : (h26.1 97 1).toInt = (h8.1 97 1).toInt := by rw [(fl27 97 (by decide)).1]
            have fl9 : FR [96, 103, 104, 105, 106] h h26 := fl9.trans fl27 (by decide)
            have hA := m37
            refine R_iload_n (k := 1) rfl rfl rfl ?_
            refine R_sipush 360 rfl rfl ?_
            refine N_icmp_ge (a := x28.toInt) (b := 360) 60 rfl rfl rfl (by decide) (fun c41 => ?_) (fun c41 => ?_)
            · refine R_iconst 0 rfl rfl ?_
              refine R_istore_n (k := 1) rfl [(1, .inl 0), (0, .inr (.inr (.inl 96)))] rfl rfl (by decide) ?_
              have lp43 : ∀ (n42 : Nat) (h44 : PH) (x46 : Int32), INV h44 → FR [96, 103, 104, 105, 106] h h44 → FR [96, 103, 104, 106] h26 h44 → 0 ≤ x46.toInt ∧ x46.toInt ≤ 60 → (h44.1 96 42).toInt = (h26.1 96 42).toInt → 0 ≤ (h44.1 96 18).toInt ∧ (h44.1 96 18).toInt ≤ 6 → True → (AIS h44) → (60 - x46.toInt).toNat < n42 → RUN d_X9_asItIs 62 [(1, .inl x46), (0, .inr (.inr (.inl 96)))] [] h44 (qg_X9_asItIs h) := by
                intro n42
                induction n42 with
                | zero => intro h44 x46 m48 m49 m50 m51 m52 m53 m54 m55 hz; exact absurd hz (Nat.not_lt_zero _)
                | succ n42 ih47 =>
                  intro h44 x46 hI fr fl45 m51 m52 m53 m54 m55 hz
                  have s56 : (h44.1 97 5).toInt = (h26.1 97 5).toInt := by rw [(fl45 97 (by decide)).1]
                  have s57 : (h44.1 97 0).toInt = (h26.1 97 0).toInt := by rw [(fl45 97 (by decide)).1]
                  have s58 : (h44.1 97 1).toInt = (h26.1 97 1).toInt := by rw [(fl45 97 (by decide)).1]
                  have fl27 : FR [96, 103, 104, 106] h8 h44 := fl27.trans fl45 (by decide)
                  have fl9 : FR [96, 103, 104, 105, 106] h h44 := fl9.trans fl45 (by decide)
                  have hA := m55
                  refine R_iload_n (k := 1) rfl rfl rfl ?_
                  refine R_bipush 60 rfl rfl ?_
                  refine N_icmp_ge (a := x46.toInt) (b := 60) 81 rfl rfl rfl (by decide) (fun c59 => ?_) (fun c59 => ?_)
                  · refine R_aload_n (k := 0) rfl rfl rfl ?_
                    refine R_aload_n (k := 0) rfl rfl rfl ?_
                    refine R_callV (v := .inr (.inr (.inl 96))) (As := []) (rest := [.inr (.inr (.inl 96))]) rfl mt_9_i133 pp_X9_hands (by decide) rfl rfl rfl (Nat.le_of_ble_eq_true rfl) (Nat.le_of_ble_eq_true rfl) ((k_X9_hands h44 hI).mono (fun r60 h61 p62 => ?_))
                    obtain ⟨rfl, x63, rfl, q64⟩ := p62
                    show RUN d_X9_asItIs 86 [(1, .inl x46), (0, .inr (.inr (.inl 96)))] [.inl x63, .inr (.inr (.inl 96))] h44 _
                    refine K_putf (j := 18) (lo := 0) (hi' := 6) rfl ft_9_253 sh_96 rfl hI (by decide) rfl (by omega) fr (by decide) (fun h65 g66 hI fr => ?_)
                    have fl45 : FR [96, 103, 104, 106] h26 h65 := by rw [g66]; exact FR_wI _ _ fl45 (by decide)
                    have fl27 : FR [96, 103, 104, 106] h8 h65 := by rw [g66]; exact FR_wI _ _ fl27 (by decide)
                    have fl9 : FR [96, 103, 104, 105, 106] h h65 := by rw [g66]; exact FR_wI _ _ fl9 (by decide)
                    have s67 : (h65.1 96 42).toInt = (h44.1 96 42).toInt := by rw [g66, wI_at (by decide)]
                    have s68 : (h65.1 97 5).toInt = (h44.1 97 5).toInt := by rw [g66, wI_ne _ _ _ (by decide)]
                    have s69 : (h65.1 97 0).toInt = (h44.1 97 0).toInt := by rw [g66, wI_ne _ _ _ (by decide)]
                    have s70 : (h65.1 97 1).toInt = (h44.1 97 1).toInt := by rw [g66, wI_ne _ _ _ (by decide)]
                    have s71 : (h65.1 96 19).toInt = (h44.1 96 19).toInt := by rw [g66, wI_at (by decide)]
                    have hA : AIS h65 := by rw [g66]; exact AIS_o (by decide) hA
                    have s72 : (h65.1 96 18).toInt = x63.toInt := by rw [g66, wI_is]
                    refine R_aload_n (k := 0) rfl rfl rfl ?_
                    refine R_aload_n (k := 0) rfl rfl rfl ?_
                    refine R_getf_r (j := 1) rfl ft_9_9 sh_96 rfl ?_
                    refine R_iconst 1 rfl rfl ?_
                    refine R_iald rfl sh_97 (by decide) ?_
                    show RUN d_X9_asItIs 96 [(1, .inl x46), (0, .inr (.inr (.inl 96)))] [.inl (h65.1 97 1), .inr (.inr (.inl 96))] h65 _
                    refine K_putf (j := 19) (lo := (-2147483648)) (hi' := 2147483647) rfl ft_9_256 sh_96 rfl hI (by decide) rfl (i_rng _) fr (by decide) (fun h73 g74 hI fr => ?_)
                    have fl45 : FR [96, 103, 104, 106] h26 h73 := by rw [g74]; exact FR_wI _ _ fl45 (by decide)
                    have fl27 : FR [96, 103, 104, 106] h8 h73 := by rw [g74]; exact FR_wI _ _ fl27 (by decide)
                    have fl9 : FR [96, 103, 104, 105, 106] h h73 := by rw [g74]; exact FR_wI _ _ fl9 (by decide)
                    have s75 : (h73.1 96 42).toInt = (h65.1 96 42).toInt := by rw [g74, wI_at (by decide)]
                    have s76 : (h73.1 97 5).toInt = (h65.1 97 5).toInt := by rw [g74, wI_ne _ _ _ (by decide)]
                    have s77 : (h73.1 97 0).toInt = (h65.1 97 0).toInt := by rw [g74, wI_ne _ _ _ (by decide)]
                    have s78 : (h73.1 97 1).toInt = (h65.1 97 1).toInt := by rw [g74, wI_ne _ _ _ (by decide)]
                    have s79 : (h73.1 96 18).toInt = (h65.1 96 18).toInt := by rw [g74, wI_at (by decide)]
                    have hA : AIS h73 := by rw [g74]; exact AIS_o (by decide) hA
                    have s80 : (h73.1 96 19).toInt = (h65.1 97 1).toInt := by rw [g74, wI_is]
                    refine R_aload_n (k := 0) rfl rfl rfl ?_
                    refine R_aload_n (k := 0) rfl rfl rfl ?_
                    refine R_getf_r (j := 1) rfl ft_9_9 sh_96 rfl ?_
                    refine R_iconst 2 rfl rfl ?_
                    refine R_iald rfl sh_97 (by decide) ?_
                    show RUN d_X9_asItIs 106 [(1, .inl x46), (0, .inr (.inr (.inl 96)))] [.inl (h73.1 97 2), .inr (.inr (.inl 96))] h73 _
                    refine K_putf (j := 20) (lo := (-2147483648)) (hi' := 2147483647) rfl ft_9_259 sh_96 rfl hI (by decide) rfl (i_rng _) fr (by decide) (fun h81 g82 hI fr => ?_)
                    have fl45 : FR [96, 103, 104, 106] h26 h81 := by rw [g82]; exact FR_wI _ _ fl45 (by decide)
                    have fl27 : FR [96, 103, 104, 106] h8 h81 := by rw [g82]; exact FR_wI _ _ fl27 (by decide)
                    have fl9 : FR [96, 103, 104, 105, 106] h h81 := by rw [g82]; exact FR_wI _ _ fl9 (by decide)
                    have s83 : (h81.1 96 42).toInt = (h73.1 96 42).toInt := by rw [g82, wI_at (by decide)]
                    have s84 : (h81.1 97 5).toInt = (h73.1 97 5).toInt := by rw [g82, wI_ne _ _ _ (by decide)]
                    have s85 : (h81.1 97 0).toInt = (h73.1 97 0).toInt := by rw [g82, wI_ne _ _ _ (by decide)]
                    have s86 : (h81.1 97 1).toInt = (h73.1 97 1).toInt := by rw [g82, wI_ne _ _ _ (by decide)]
                    have s87 : (h81.1 96 18).toInt = (h73.1 96 18).toInt := by rw [g82, wI_at (by decide)]
                    have s88 : (h81.1 96 19).toInt = (h73.1 96 19).toInt := by rw [g82, wI_at (by decide)]
                    have s89 : (h81.1 97 2).toInt = (h73.1 97 2).toInt := by rw [g82, wI_ne _ _ _ (by decide)]
                    have hA : AIS h81 := by rw [g82]; exact AIS_o (by decide) hA
                    have s90 : (h81.1 96 20).toInt = (h73.1 97 2).toInt := by rw [g82, wI_is]
                    refine R_iconst 0 rfl rfl ?_
                    refine R_istore_n (k := 1) rfl [(1, .inl 0), (0, .inr (.inr (.inl 96)))] rfl rfl (by decide) ?_
                    have lp92 : ∀ (n91 : Nat) (h93 : PH) (x95 : Int32), INV h93 → FR [96, 103, 104, 105, 106] h h93 → FR [103, 104] h81 h93 → 0 ≤ x95.toInt ∧ x95.toInt ≤ 30 → (AIS h93) → (30 - x95.toInt).toNat < n91 → RUN d_X9_asItIs 111 [(1, .inl x95), (0, .inr (.inr (.inl 96)))] [] h93 (qg_X9_asItIs h) := by
                      intro n91
                      induction n91 with
                      | zero => intro h93 x95 m97 m98 m99 m100 m101 hz; exact absurd hz (Nat.not_lt_zero _)
                      | succ n91 ih96 =>
                        intro h93 x95 hI fr fl94 m100 m101 hz
                        have s102 : (h93.1 96 42).toInt = (h81.1 96 42).toInt := by rw [(fl94 96 (by decide)).1]
                        have s103 : (h93.1 97 5).toInt = (h81.1 97 5).toInt := by rw [(fl94 97 (by decide)).1]
                        have s104 : (h93.1 97 0).toInt = (h81.1 97 0).toInt := by rw [(fl94 97 (by decide)).1]
                        have s105 : (h93.1 97 1).toInt = (h81.1 97 1).toInt := by rw [(fl94 97 (by decide)).1]
                        have s106 : (h93.1 96 18).toInt = (h81.1 96 18).toInt := by rw [(fl94 96 (by decide)).1]
                        have s107 : (h93.1 96 19).toInt = (h81.1 96 19).toInt := by rw [(fl94 96 (by decide)).1]
                        have s108 : (h93.1 97 2).toInt = (h81.1 97 2).toInt := by rw [(fl94 97 (by decide)).1]
                        have s109 : (h93.1 96 20).toInt = (h81.1 96 20).toInt := by rw [(fl94 96 (by decide)).1]
                        have fl45 : FR [96, 103, 104, 106] h26 h93 := fl45.trans fl94 (by decide)
                        have fl27 : FR [96, 103, 104, 106] h8 h93 := fl27.trans fl94 (by decide)
                        have fl9 : FR [96, 103, 104, 105, 106] h h93 := fl9.trans fl94 (by decide)
                        have hA := m101
                        refine R_iload_n (k := 1) rfl rfl rfl ?_
                        refine R_aload_n (k := 0) rfl rfl rfl ?_
                        refine R_getf_r (j := 1) rfl ft_9_9 sh_96 rfl ?_
                        refine R_bipush 9 rfl rfl ?_
                        refine R_iald rfl sh_97 (by decide) ?_
                        have b110 : (0 : Int) ≤ (h93.1 97 9).toInt ∧ (h93.1 97 9).toInt ≤ 30 := hI.1 97 9
                        show RUN d_X9_asItIs 119 [(1, .inl x95), (0, .inr (.inr (.inl 96)))] [.inl (h93.1 97 9), .inl x95] h93 _
                        refine N_icmp_ge (a := x95.toInt) (b := (h93.1 97 9).toInt) 222 rfl rfl rfl rfl (fun c111 => ?_) (fun c111 => ?_)
                        · exact R_vret rfl rfl ⟨hI, fr, ⟨by omega, hA, by omega, by omega, trivial⟩, rfl⟩
                        · refine R_aload_n (k := 0) rfl rfl rfl ?_
                          refine R_getf_r (j := 1) rfl ft_9_9 sh_96 rfl ?_
                          refine R_bipush 38 rfl rfl ?_
                          refine R_iload_n (k := 1) rfl rfl rfl ?_
                          refine R_iadd rfl ?_
                          refine N_eq (fun x112 e113 => ?_)
                          have q114 : x112.toInt = 38 + x95.toInt := by rw [e113]; exact i_add (by decide) rfl (by omega)
                          refine R_iald rfl sh_97 ⟨by omega, by omega⟩ ?_
                          refine N_bd2 (act_at hI (i := x112) (b := x95.toInt) (by omega) (by omega)) (fun x115 q116 => ?_)
                          refine R_istore_n (k := 2) rfl [(2, .inl x115), (1, .inl x95), (0, .inr (.inr (.inl 96)))] rfl rfl (by decide) ?_
                          refine R_iload_n (k := 2) rfl rfl rfl ?_
                          refine R_sipush 10000 rfl rfl ?_
                          refine N_icmp_ge (a := x115.toInt) (b := 10000) 157 rfl rfl rfl (by decide) (fun c117 => ?_) (fun c117 => ?_)
                          · refine R_iload_n (k := 2) rfl rfl rfl ?_
                            refine R_sipush 10000 rfl rfl ?_
                            refine R_idiv rfl (by decide) ?_
                            refine N_eq (fun x118 e119 => ?_)
                            have q120 : x118.toInt = x115.toInt / 10000 := by rw [e119]; exact i_div rfl (by decide) (by omega) (by omega)
                            refine R_iconst 1 rfl rfl ?_
                            refine R_isub rfl ?_
                            refine N_eq (fun x121 e122 => ?_)
                            have q123 : x121.toInt = x118.toInt - 1 := by rw [e122]; exact i_sub rfl (by decide) (by omega)
                            refine R_istore_n (k := 3) rfl [(3, .inl x121), (2, .inl x115), (1, .inl x95), (0, .inr (.inr (.inl 96)))] rfl rfl (by decide) ?_
                            refine R_iload_n (k := 2) rfl rfl rfl ?_
                            refine R_bipush 100 rfl rfl ?_
                            refine R_idiv rfl (by decide) ?_
                            refine N_eq (fun x124 e125 => ?_)
                            have q126 : x124.toInt = x115.toInt / 100 := by rw [e125]; exact i_div rfl (by decide) (by omega) (by omega)
                            refine R_bipush 100 rfl rfl ?_
                            refine R_irem rfl (by decide) ?_
                            refine N_eq (fun x127 e128 => ?_)
                            have q129 : x127.toInt = x124.toInt % 100 := by rw [e128]; exact i_rem rfl (by decide) (by omega) (by omega)
                            refine R_istore (k := 4) [(4, .inl x127), (3, .inl x121), (2, .inl x115), (1, .inl x95), (0, .inr (.inr (.inl 96)))] rfl rfl (by decide) ?_
                            refine R_iload (k := 4) rfl rfl ?_
                            refine R_istore (k := 5) [(5, .inl x127), (4, .inl x127), (3, .inl x121), (2, .inl x115), (1, .inl x95), (0, .inr (.inr (.inl 96)))] rfl rfl (by decide) ?_
                            have lp131 : ∀ (n130 : Nat) (h132 : PH) (x134 : Int32), INV h132 → FR [96, 103, 104, 105, 106] h h132 → FR [104] h93 h132 → 0 ≤ x134.toInt ∧ x134.toInt ≤ 99 → x127.toInt ≤ x134.toInt + 0 → (AIS h132) → (99 - x134.toInt).toNat < n130 → RUN d_X9_asItIs 178 [(5, .inl x134), (4, .inl x127), (3, .inl x121), (2, .inl x115), (1, .inl x95), (0, .inr (.inr (.inl 96)))] [] h132 (qg_X9_asItIs h) := by
                              intro n130
                              induction n130 with
                              | zero => intro h132 x134 m136 m137 m138 m139 m140 m141 hz; exact absurd hz (Nat.not_lt_zero _)
                              | succ n130 ih135 =>
                                intro h132 x134 hI fr fl133 m139 m140 m141 hz
                                have s142 : (h132.1 96 42).toInt = (h93.1 96 42).toInt := by rw [(fl133 96 (by decide)).1]
                                have s143 : (h132.1 97 5).toInt = (h93.1 97 5).toInt := by rw [(fl133 97 (by decide)).1]
                                have s144 : (h132.1 97 0).toInt = (h93.1 97 0).toInt := by rw [(fl133 97 (by decide)).1]
                                have s145 : (h132.1 97 1).toInt = (h93.1 97 1).toInt := by rw [(fl133 97 (by decide)).1]
                                have s146 : (h132.1 96 18).toInt = (h93.1 96 18).toInt := by rw [(fl133 96 (by decide)).1]
                                have s147 : (h132.1 96 19).toInt = (h93.1 96 19).toInt := by rw [(fl133 96 (by decide)).1]
                                have s148 : (h132.1 97 2).toInt = (h93.1 97 2).toInt := by rw [(fl133 97 (by decide)).1]
                                have s149 : (h132.1 96 20).toInt = (h93.1 96 20).toInt := by rw [(fl133 96 (by decide)).1]
                                have s150 : (h132.1 97 9).toInt = (h93.1 97 9).toInt := by rw [(fl133 97 (by decide)).1]
                                have fl94 : FR [103, 104] h81 h132 := fl94.trans fl133 (by decide)
                                have fl45 : FR [96, 103, 104, 106] h26 h132 := fl45.trans fl133 (by decide)
                                have fl27 : FR [96, 103, 104, 106] h8 h132 := fl27.trans fl133 (by decide)
                                have fl9 : FR [96, 103, 104, 105, 106] h h132 := fl9.trans fl133 (by decide)
                                have hA := m141
                                refine R_iload (k := 5) rfl rfl ?_
                                refine R_iload (k := 4) rfl rfl ?_
                                refine R_iload_n (k := 2) rfl rfl rfl ?_
                                refine R_bipush 100 rfl rfl ?_
                                refine R_irem rfl (by decide) ?_
                                refine N_eq (fun x151 e152 => ?_)
                                have q153 : x151.toInt = x115.toInt % 100 := by rw [e152]; exact i_rem rfl (by decide) (by omega) (by omega)
                                refine R_iadd rfl ?_
                                refine N_eq (fun x154 e155 => ?_)
                                have q156 : x154.toInt = x127.toInt + x151.toInt := by rw [e155]; exact i_add rfl rfl (by omega)
                                refine N_icmp_ge (a := x134.toInt) (b := x154.toInt) 216 rfl rfl rfl rfl (fun c157 => ?_) (fun c157 => ?_)
                                · refine N_iinc (a := x95.toInt) (c := 1) (fun w => [(1, .inl w), (5, .inl x134), (4, .inl x127), (3, .inl x121), (2, .inl x115), (0, .inr (.inr (.inl 96)))]) rfl rfl (fun _ => rfl) (by decide) rfl (by decide) (by omega) (fun x158 q159 => ?_)
                                  refine R_goto 111 rfl rfl ?_
                                  exact RUN_weak (psub_cons rfl (psub_cons rfl (psub_nil _))) (ih96 h132 x158 hI fr fl94 (by omega) (hA) (by omega))
                                · refine R_iload (k := 5) rfl rfl ?_
                                  refine R_bipush 60 rfl rfl ?_
                                  refine N_icmp_ge (a := x134.toInt) (b := 60) 216 rfl rfl rfl (by decide) (fun c160 => ?_) (fun c160 => ?_)
                                  · refine N_iinc (a := x95.toInt) (c := 1) (fun w => [(1, .inl w), (5, .inl x134), (4, .inl x127), (3, .inl x121), (2, .inl x115), (0, .inr (.inr (.inl 96)))]) rfl rfl (fun _ => rfl) (by decide) rfl (by decide) (by omega) (fun x161 q162 => ?_)
                                    refine R_goto 111 rfl rfl ?_
                                    exact RUN_weak (psub_cons rfl (psub_cons rfl (psub_nil _))) (ih96 h132 x161 hI fr fl94 (by omega) (hA) (by omega))
                                  · refine R_aload_n (k := 0) rfl rfl rfl ?_
                                    refine R_getf_r (j := 16) rfl ft_9_37 sh_96 rfl ?_
                                    refine R_bipush 6 rfl rfl ?_
                                    refine R_iload (k := 5) rfl rfl ?_
                                    refine R_imul rfl ?_
                                    refine N_eq (fun x163 e164 => ?_)
                                    have q165 : x163.toInt = 6 * x134.toInt := by rw [e164]; exact i_mul (by decide) rfl (by omega)
                                    refine R_iload_n (k := 3) rfl rfl rfl ?_
                                    refine R_iadd rfl ?_
                                    refine N_eq (fun x166 e167 => ?_)
                                    have q168 : x166.toInt = x163.toInt + x121.toInt := by rw [e167]; exact i_add rfl rfl (by omega)
                                    refine R_iconst 1 rfl rfl ?_
                                    refine K_zast (a := x166.toInt) rfl sh_104 rfl ⟨by omega, by omega⟩ hI (by decide) rfl fr (by decide) (fun h169 g170 hI fr => ?_)
                                    have fl133 : FR [104] h93 h169 := by rw [g170]; exact FR_wI _ _ fl133 (by decide)
                                    have fl94 : FR [103, 104] h81 h169 := by rw [g170]; exact FR_wI _ _ fl94 (by decide)
                                    have fl45 : FR [96, 103, 104, 106] h26 h169 := by rw [g170]; exact FR_wI _ _ fl45 (by decide)
                                    have fl27 : FR [96, 103, 104, 106] h8 h169 := by rw [g170]; exact FR_wI _ _ fl27 (by decide)
                                    have fl9 : FR [96, 103, 104, 105, 106] h h169 := by rw [g170]; exact FR_wI _ _ fl9 (by decide)
                                    have s171 : (h169.1 96 42).toInt = (h132.1 96 42).toInt := by rw [g170, wI_ne _ _ _ (by decide)]
                                    have s172 : (h169.1 97 5).toInt = (h132.1 97 5).toInt := by rw [g170, wI_ne _ _ _ (by decide)]
                                    have s173 : (h169.1 97 0).toInt = (h132.1 97 0).toInt := by rw [g170, wI_ne _ _ _ (by decide)]
                                    have s174 : (h169.1 97 1).toInt = (h132.1 97 1).toInt := by rw [g170, wI_ne _ _ _ (by decide)]
                                    have s175 : (h169.1 96 18).toInt = (h132.1 96 18).toInt := by rw [g170, wI_ne _ _ _ (by decide)]
                                    have s176 : (h169.1 96 19).toInt = (h132.1 96 19).toInt := by rw [g170, wI_ne _ _ _ (by decide)]
                                    have s177 : (h169.1 97 2).toInt = (h132.1 97 2).toInt := by rw [g170, wI_ne _ _ _ (by decide)]
                                    have s178 : (h169.1 96 20).toInt = (h132.1 96 20).toInt := by rw [g170, wI_ne _ _ _ (by decide)]
                                    have s179 : (h169.1 97 9).toInt = (h132.1 97 9).toInt := by rw [g170, wI_ne _ _ _ (by decide)]
                                    have hA : AIS h169 := by rw [g170]; exact AIS_o (by decide) hA
                                    refine N_iinc (a := x134.toInt) (c := 1) (fun w => [(5, .inl w), (4, .inl x127), (3, .inl x121), (2, .inl x115), (1, .inl x95), (0, .inr (.inr (.inl 96)))]) rfl rfl (fun _ => rfl) (by decide) rfl (by decide) (by omega) (fun x180 q181 => ?_)
                                    refine R_goto 178 rfl rfl ?_
                                    exact RUN_weak (psub_cons rfl (psub_cons rfl (psub_cons rfl (psub_cons rfl (psub_cons rfl (psub_cons rfl (psub_nil _))))))) (ih135 h169 x180 hI fr fl133 (by omega) (by omega) (hA) (by omega))
                            exact lp131 _ h93 x127 hI fr (FR.rf _ _) (by omega) (by omega) (hA) (Nat.lt_succ_self _)
                          · refine R_aload_n (k := 0) rfl rfl rfl ?_
                            refine R_getf_r (j := 15) rfl ft_9_34 sh_96 rfl ?_
                            refine R_iload_n (k := 2) rfl rfl rfl ?_
                            refine R_bipush 100 rfl rfl ?_
                            refine R_idiv rfl (by decide) ?_
                            refine N_eq (fun x182 e183 => ?_)
                            have q184 : x182.toInt = x115.toInt / 100 := by rw [e183]; exact i_div rfl (by decide) (by omega) (by omega)
                            refine R_iconst 1 rfl rfl ?_
                            refine R_isub rfl ?_
                            refine N_eq (fun x185 e186 => ?_)
                            have q187 : x185.toInt = x182.toInt - 1 := by rw [e186]; exact i_sub rfl (by decide) (by omega)
                            refine R_iload_n (k := 2) rfl rfl rfl ?_
                            refine R_bipush 100 rfl rfl ?_
                            refine R_irem rfl (by decide) ?_
                            refine N_eq (fun x188 e189 => ?_)
                            have q190 : x188.toInt = x115.toInt % 100 := by rw [e189]; exact i_rem rfl (by decide) (by omega) (by omega)
                            refine K_iast (a := x185.toInt) (lo := (-2147483648)) (hi' := 2147483647) rfl sh_103 rfl ⟨by omega, by omega⟩ hI (by decide) rfl (i_rng _) fr (by decide) (fun h191 g192 hI fr => ?_)
                            have fl94 : FR [103, 104] h81 h191 := by rw [g192]; exact FR_wI _ _ fl94 (by decide)
                            have fl45 : FR [96, 103, 104, 106] h26 h191 := by rw [g192]; exact FR_wI _ _ fl45 (by decide)
                            have fl27 : FR [96, 103, 104, 106] h8 h191 := by rw [g192]; exact FR_wI _ _ fl27 (by decide)
                            have fl9 : FR [96, 103, 104, 105, 106] h h191 := by rw [g192]; exact FR_wI _ _ fl9 (by decide)
                            have s193 : (h191.1 96 42).toInt = (h93.1 96 42).toInt := by rw [g192, wI_ne _ _ _ (by decide)]
                            have s194 : (h191.1 97 5).toInt = (h93.1 97 5).toInt := by rw [g192, wI_ne _ _ _ (by decide)]
                            have s195 : (h191.1 97 0).toInt = (h93.1 97 0).toInt := by rw [g192, wI_ne _ _ _ (by decide)]
                            have s196 : (h191.1 97 1).toInt = (h93.1 97 1).toInt := by rw [g192, wI_ne _ _ _ (by decide)]
                            have s197 : (h191.1 96 18).toInt = (h93.1 96 18).toInt := by rw [g192, wI_ne _ _ _ (by decide)]
                            have s198 : (h191.1 96 19).toInt = (h93.1 96 19).toInt := by rw [g192, wI_ne _ _ _ (by decide)]
                            have s199 : (h191.1 97 2).toInt = (h93.1 97 2).toInt := by rw [g192, wI_ne _ _ _ (by decide)]
                            have s200 : (h191.1 96 20).toInt = (h93.1 96 20).toInt := by rw [g192, wI_ne _ _ _ (by decide)]
                            have s201 : (h191.1 97 9).toInt = (h93.1 97 9).toInt := by rw [g192, wI_ne _ _ _ (by decide)]
                            have hA : AIS h191 := by rw [g192]; exact AIS_103 (by omega) hA
                            refine R_goto 216 rfl rfl ?_
                            refine N_iinc (a := x95.toInt) (c := 1) (fun w => [(1, .inl w), (2, .inl x115), (0, .inr (.inr (.inl 96)))]) rfl rfl (fun _ => rfl) (by decide) rfl (by decide) (by omega) (fun x202 q203 => ?_)
                            refine R_goto 111 rfl rfl ?_
                            exact RUN_weak (psub_cons rfl (psub_cons rfl (psub_nil _))) (ih96 h191 x202 hI fr fl94 (by omega) (hA) (by omega))
                    have k204 : (0 : Int32).toInt = 0 := by decide
                    exact lp92 _ h81 (0 : Int32) hI fr (FR.rf _ _) (by decide) (hA) (Nat.lt_succ_self _)
                  · refine R_aload_n (k := 0) rfl rfl rfl ?_
                    refine R_getf_r (j := 21) rfl ft_9_43 sh_96 rfl ?_
                    refine R_iload_n (k := 1) rfl rfl rfl ?_
                    refine R_iconst 0 rfl rfl ?_
                    refine K_zast (a := x46.toInt) rfl sh_106 rfl ⟨by omega, by omega⟩ hI (by decide) rfl fr (by decide) (fun h205 g206 hI fr => ?_)
                    have fl45 : FR [96, 103, 104, 106] h26 h205 := by rw [g206]; exact FR_wI _ _ fl45 (by decide)
                    have fl27 : FR [96, 103, 104, 106] h8 h205 := by rw [g206]; exact FR_wI _ _ fl27 (by decide)
                    have fl9 : FR [96, 103, 104, 105, 106] h h205 := by rw [g206]; exact FR_wI _ _ fl9 (by decide)
                    have s207 : (h205.1 96 42).toInt = (h44.1 96 42).toInt := by rw [g206, wI_ne _ _ _ (by decide)]
                    have s208 : (h205.1 97 5).toInt = (h44.1 97 5).toInt := by rw [g206, wI_ne _ _ _ (by decide)]
                    have s209 : (h205.1 97 0).toInt = (h44.1 97 0).toInt := by rw [g206, wI_ne _ _ _ (by decide)]
                    have s210 : (h205.1 97 1).toInt = (h44.1 97 1).toInt := by rw [g206, wI_ne _ _ _ (by decide)]
                    have s211 : (h205.1 96 18).toInt = (h44.1 96 18).toInt := by rw [g206, wI_ne _ _ _ (by decide)]
                    have s212 : (h205.1 96 19).toInt = (h44.1 96 19).toInt := by rw [g206, wI_ne _ _ _ (by decide)]
                    have hA : AIS h205 := by rw [g206]; exact AIS_o (by decide) hA
                    refine N_iinc (a := x46.toInt) (c := 1) (fun w => [(1, .inl w), (0, .inr (.inr (.inl 96)))]) rfl rfl (fun _ => rfl) (by decide) rfl (by decide) (by omega) (fun x213 q214 => ?_)
                    refine R_goto 62 rfl rfl ?_
                    exact RUN_weak (psub_cons rfl (psub_cons rfl (psub_nil _))) (ih47 h205 x213 hI fr fl45 (by omega) (by omega) (by omega) trivial (hA) (by omega))
              have k215 : (0 : Int32).toInt = 0 := by decide
              exact lp43 _ h26 (0 : Int32) hI fr (FR.rf _ _) (by decide) rfl (by omega) trivial (hA) (Nat.lt_succ_self _)
            · refine R_aload_n (k := 0) rfl rfl rfl ?_
              refine R_getf_r (j := 16) rfl ft_9_37 sh_96 rfl ?_
              refine R_iload_n (k := 1) rfl rfl rfl ?_
              refine R_iconst 0 rfl rfl ?_
              refine K_zast (a := x28.toInt) rfl sh_104 rfl ⟨by omega, by omega⟩ hI (by decide) rfl fr (by decide) (fun h216 g217 hI fr => ?_)
              have fl27 : FR [96, 103, 104, 106] h8 h216 := by rw [g217]; exact FR_wI _ _ fl27 (by decide)
              have fl9 : FR [96, 103, 104, 105, 106] h h216 := by rw [g217]; exact FR_wI _ _ fl9 (by decide)
              have s218 : (h216.1 96 42).toInt = (h26.1 96 42).toInt := by rw [g217, wI_ne _ _ _ (by decide)]
              have s219 : (h216.1 97 5).toInt = (h26.1 97 5).toInt := by rw [g217, wI_ne _ _ _ (by decide)]
              have s220 : (h216.1 97 0).toInt = (h26.1 97 0).toInt := by rw [g217, wI_ne _ _ _ (by decide)]
              have s221 : (h216.1 97 1).toInt = (h26.1 97 1).toInt := by rw [g217, wI_ne _ _ _ (by decide)]
              have s222 : (h216.1 96 18).toInt = (h26.1 96 18).toInt := by rw [g217, wI_ne _ _ _ (by decide)]
              have s223 : (h216.1 96 19).toInt = (h26.1 96 19).toInt := by rw [g217, wI_ne _ _ _ (by decide)]
              have hA : AIS h216 := by rw [g217]; exact AIS_o (by decide) hA
              refine N_iinc (a := x28.toInt) (c := 1) (fun w => [(1, .inl w), (0, .inr (.inr (.inl 96)))]) rfl rfl (fun _ => rfl) (by decide) rfl (by decide) (by omega) (fun x224 q225 => ?_)
              refine R_goto 40 rfl rfl ?_
              exact RUN_weak (psub_cons rfl (psub_cons rfl (psub_nil _))) (ih29 h216 x224 hI fr fl27 (by omega) (by omega) (by omega) trivial (hA) (by omega))
        have k226 : (0 : Int32).toInt = 0 := by decide
        exact lp25 _ h8 (0 : Int32) hI fr (FR.rf _ _) (by decide) rfl (by omega) trivial (hA) (Nat.lt_succ_self _)
      · refine R_aload_n (k := 0) rfl rfl rfl ?_
        refine R_getf_r (j := 15) rfl ft_9_34 sh_96 rfl ?_
        refine R_iload_n (k := 1) rfl rfl rfl ?_
        refine R_aload_n (k := 0) rfl rfl rfl ?_
        refine R_getf_r (j := 1) rfl ft_9_9 sh_96 rfl ?_
        refine R_bipush 11 rfl rfl ?_
        refine R_iconst 2 rfl rfl ?_
        refine R_iload_n (k := 1) rfl rfl rfl ?_
        refine R_imul rfl ?_
        refine N_eq (fun x227 e228 => ?_)
        have q229 : x227.toInt = 2 * x10.toInt := by rw [e228]; exact i_mul (by decide) rfl (by omega)
        refine R_iadd rfl ?_
        refine N_eq (fun x230 e231 => ?_)
        have q232 : x230.toInt = 11 + x227.toInt := by rw [e231]; exact i_add (by decide) rfl (by omega)
        refine R_iald rfl sh_97 ⟨by omega, by omega⟩ ?_
        refine N_eq (fun x233 e234 => ?_)
        have qb234 : 0 ≤ x233.toInt ∧ x233.toInt ≤ 6 := by rw [e234]; exact pace_at hI (x := x10.toInt) (by omega) (by omega)
        refine K_iast (a := x10.toInt) (lo := (-2147483648)) (hi' := 2147483647) rfl sh_103 rfl ⟨by omega, by omega⟩ hI (by decide) rfl (i_rng _) fr (by decide) (fun h236 g237 hI fr => ?_)
        have fl9 : FR [96, 103, 104, 105, 106] h h236 := by rw [g237]; exact FR_wI _ _ fl9 (by decide)
        have s238 : (h236.1 96 42).toInt = (h8.1 96 42).toInt := by rw [g237, wI_ne _ _ _ (by decide)]
        have s239 : (h236.1 97 5).toInt = (h8.1 97 5).toInt := by rw [g237, wI_ne _ _ _ (by decide)]
        have s240 : (h236.1 97 0).toInt = (h8.1 97 0).toInt := by rw [g237, wI_ne _ _ _ (by decide)]
        have s241 : (h236.1 97 1).toInt = (h8.1 97 1).toInt := by rw [g237, wI_ne _ _ _ (by decide)]
        have s242 : (h236.1 96 18).toInt = (h8.1 96 18).toInt := by rw [g237, wI_ne _ _ _ (by decide)]
        have s243 : (h236.1 96 19).toInt = (h8.1 96 19).toInt := by rw [g237, wI_ne _ _ _ (by decide)]
        refine R_aload_n (k := 0) rfl rfl rfl ?_
        refine R_getf_r (j := 17) rfl ft_9_40 sh_96 rfl ?_
        refine R_iload_n (k := 1) rfl rfl rfl ?_
        refine R_iload_n (k := 1) rfl rfl rfl ?_
        refine K_iast (a := x10.toInt) (lo := 0) (hi' := 5) rfl sh_105 rfl ⟨by omega, by omega⟩ hI (by decide) rfl (by omega) fr (by decide) (fun h244 g245 hI fr => ?_)
        have fl9 : FR [96, 103, 104, 105, 106] h h244 := by rw [g245]; exact FR_wI _ _ fl9 (by decide)
        have s246 : (h244.1 96 42).toInt = (h236.1 96 42).toInt := by rw [g245, wI_ne _ _ _ (by decide)]
        have s247 : (h244.1 97 5).toInt = (h236.1 97 5).toInt := by rw [g245, wI_ne _ _ _ (by decide)]
        have s248 : (h244.1 97 0).toInt = (h236.1 97 0).toInt := by rw [g245, wI_ne _ _ _ (by decide)]
        have s249 : (h244.1 97 1).toInt = (h236.1 97 1).toInt := by rw [g245, wI_ne _ _ _ (by decide)]
        have s250 : (h244.1 96 18).toInt = (h236.1 96 18).toInt := by rw [g245, wI_ne _ _ _ (by decide)]
        have s251 : (h244.1 96 19).toInt = (h236.1 96 19).toInt := by rw [g245, wI_ne _ _ _ (by decide)]
        refine N_iinc (a := x10.toInt) (c := 1) (fun w => [(1, .inl w), (0, .inr (.inr (.inl 96)))]) rfl rfl (fun _ => rfl) (by decide) rfl (by decide) (by omega) (fun x252 q253 => ?_)
        refine R_goto 2 rfl rfl ?_
        exact RUN_weak (psub_cons rfl (psub_cons rfl (psub_nil _))) (ih11 h244 x252 hI fr fl9 (by omega) (by omega) (by omega) trivial (ais_step (x := x10) (x' := x252) g237 g245 m19 (by omega) (by omega) (by omega)) (by omega))
  have k254 : (0 : Int32).toInt = 0 := by decide
  exact lp7 _ h (0 : Int32) hI fr (FR.rf _ _) (by decide) rfl (by omega) trivial (fun j hj => absurd hj (by omega)) (Nat.lt_succ_self _)

abbrev qg_X9_keepState (h : PH)  : Option PV → PH → Prop := fun r h' => INV h' ∧ FR [121] h h' ∧ ((∀ j : Nat, j < 6 → h'.1 121 j = zMin ((kyOf h).1 j) ((evOf h).2.1 j)) ∧ (∀ j : Nat, j < 23 → h'.1 121 (6 + j) = (kyOf h).2.2.1 j) ∧ (kyOf h' = kyOf h) ∧ (evOf h' = evOf h) ∧ True) ∧ r = none
set_option maxHeartbeats 4000000 in
set_option maxRecDepth 100000 in
theorem g_X9_keepState (h : PH) (hI : INV h)  : CALL d_X9_keepState [.inr (.inr (.inl 96)), .inr (.inr (.inl 121))] h (qg_X9_keepState h) := by
  show RUN d_X9_keepState 0 [(0, .inr (.inr (.inl 96))), (1, .inr (.inr (.inl 121)))] [] h _
  have fr : FR [121] h h := FR.rf _ _
  have hK : kyOf h = kyOf h := rfl
  have hE : evOf h = evOf h := rfl
  refine R_iconst 0 rfl rfl ?_
  refine R_istore_n (k := 2) rfl [(2, .inl 0), (0, .inr (.inr (.inl 96))), (1, .inr (.inr (.inl 121)))] rfl rfl (by decide) ?_
  have lp2 : ∀ (n1 : Nat) (h3 : PH) (x5 : Int32), INV h3 → FR [121] h h3 → FR [121] h h3 → 0 ≤ x5.toInt ∧ x5.toInt ≤ 6 → (kyOf h3 = kyOf h) → (∀ j : Nat, (j : Int) < x5.toInt → h3.1 121 j = zMin ((kyOf h).1 j) ((evOf h).2.1 j)) → (evOf h3 = evOf h) → (6 - x5.toInt).toNat < n1 → RUN d_X9_keepState 2 [(2, .inl x5), (0, .inr (.inr (.inl 96))), (1, .inr (.inr (.inl 121)))] [] h3 (qg_X9_keepState h) := by
    intro n1
    induction n1 with
    | zero => intro h3 x5 m7 m8 m9 m10 m11 m12 m13 hz; exact absurd hz (Nat.not_lt_zero _)
    | succ n1 ih6 =>
      intro h3 x5 hI fr fl4 m10 m11 m12 m13 hz
      have hK := m11
      have hE := m13
      refine R_iload_n (k := 2) rfl rfl rfl ?_
      refine R_bipush 6 rfl rfl ?_
      refine N_icmp_ge (a := x5.toInt) (b := 6) 32 rfl rfl rfl (by decide) (fun c14 => ?_) (fun c14 => ?_)
      · refine R_iconst 0 rfl rfl ?_
        refine R_istore_n (k := 2) rfl [(2, .inl 0), (0, .inr (.inr (.inl 96))), (1, .inr (.inr (.inl 121)))] rfl rfl (by decide) ?_
        have lp16 : ∀ (n15 : Nat) (h17 : PH) (x19 : Int32), INV h17 → FR [121] h h17 → FR [121] h3 h17 → 0 ≤ x19.toInt ∧ x19.toInt ≤ 23 → (kyOf h17 = kyOf h) → ((∀ j : Nat, j < 6 → h17.1 121 j = zMin ((kyOf h).1 j) ((evOf h).2.1 j)) ∧ (∀ j : Nat, (j : Int) < x19.toInt → h17.1 121 (6 + j) = (kyOf h).2.2.1 j)) → (evOf h17 = evOf h) → (23 - x19.toInt).toNat < n15 → RUN d_X9_keepState 34 [(2, .inl x19), (0, .inr (.inr (.inl 96))), (1, .inr (.inr (.inl 121)))] [] h17 (qg_X9_keepState h) := by
          intro n15
          induction n15 with
          | zero => intro h17 x19 m21 m22 m23 m24 m25 m26 m27 hz; exact absurd hz (Nat.not_lt_zero _)
          | succ n15 ih20 =>
            intro h17 x19 hI fr fl18 m24 m25 m26 m27 hz
            have fl4 : FR [121] h h17 := fl4.trans fl18 (by decide)
            have hK := m25
            have hE := m27
            refine R_iload_n (k := 2) rfl rfl rfl ?_
            refine R_bipush 23 rfl rfl ?_
            refine N_icmp_ge (a := x19.toInt) (b := 23) 58 rfl rfl rfl (by decide) (fun c28 => ?_) (fun c28 => ?_)
            · have hF1 : ∀ j : Nat, j < 6 → h17.1 121 j = zMin ((kyOf h).1 j) ((evOf h).2.1 j) := m26.1
              have hF2 : ∀ j : Nat, j < 23 → h17.1 121 (6 + j) = (kyOf h).2.2.1 j := fun j hj => m26.2 j (by omega)
              exact R_vret rfl rfl ⟨hI, fr, ⟨hF1, hF2, hK, hE, trivial⟩, rfl⟩
            · refine R_aload_n (k := 1) rfl rfl rfl ?_
              refine R_bipush 6 rfl rfl ?_
              refine R_iload_n (k := 2) rfl rfl rfl ?_
              refine R_iadd rfl ?_
              refine N_eq (fun x29 e30 => ?_)
              have q31 : x29.toInt = 6 + x19.toInt := by rw [e30]; exact i_add (by decide) rfl (by omega)
              refine R_aload_n (k := 0) rfl rfl rfl ?_
              refine R_getf_r (j := 24) rfl ft_9_52 sh_96 rfl ?_
              refine R_iload_n (k := 2) rfl rfl rfl ?_
              refine R_iald rfl sh_109 ⟨by omega, by omega⟩ ?_
              refine N_eq (fun x32 e33 => ?_)
              have e34 : x32 = ((kyOf h).2.2.1) x19.toNatClampNeg := by rw [e33]; exact (ky_at109 (nlt ⟨by omega, by omega⟩)).trans (congrFun (congrArg (fun q : KY => q.2.2.1) hK) _)
              refine K_iast (a := x29.toInt) (lo := (-2147483648)) (hi' := 2147483647) rfl sh_121 rfl ⟨by omega, by omega⟩ hI (by decide) rfl (i_rng _) fr (by decide) (fun h35 g36 hI fr => ?_)
              have fl18 : FR [121] h3 h35 := by rw [g36]; exact FR_wI _ _ fl18 (by decide)
              have fl4 : FR [121] h h35 := by rw [g36]; exact FR_wI _ _ fl4 (by decide)
              have hK : kyOf h35 = kyOf h := by rw [g36, ky_o (by decide), hK]
              have hE : evOf h35 = evOf h := by rw [g36, ev_o (by decide), hE]
              refine N_iinc (a := x19.toInt) (c := 1) (fun w => [(2, .inl w), (0, .inr (.inr (.inl 96))), (1, .inr (.inr (.inl 121)))]) rfl rfl (fun _ => rfl) (by decide) rfl (by decide) (by omega) (fun x37 q38 => ?_)
              refine R_goto 34 rfl rfl ?_
              exact RUN_weak (psub_cons rfl (psub_cons rfl (psub_cons rfl (psub_nil _)))) (ih20 h35 x37 hI fr fl18 (by omega) (hK) (⟨by rw [g36, wI_self]; exact ks_keep (x := x19) m26.1 (by omega) (by omega), by rw [g36, wI_self]; exact ks_step2 (x := x19) (x' := x37) (F := (kyOf h).2.2.1) m26.2 (by subst e34 e30; rfl) (by omega) (by omega) (by omega)⟩) (hE) (by omega))
        have k39 : (0 : Int32).toInt = 0 := by decide
        exact lp16 _ h3 (0 : Int32) hI fr (FR.rf _ _) (by decide) (hK) (⟨fun j hj => m12 j (by omega), fun j hj => absurd hj (by omega)⟩) (hE) (Nat.lt_succ_self _)
      · refine R_aload_n (k := 1) rfl rfl rfl ?_
        refine R_iload_n (k := 2) rfl rfl rfl ?_
        refine R_aload_n (k := 0) rfl rfl rfl ?_
        refine R_getf_r (j := 22) rfl ft_9_46 sh_96 rfl ?_
        refine R_iload_n (k := 2) rfl rfl rfl ?_
        refine R_iald rfl sh_107 ⟨by omega, by omega⟩ ?_
        refine N_eq (fun x40 e41 => ?_)
        have e42 : x40 = ((kyOf h).1) x5.toNatClampNeg := by rw [e41]; exact (ky_at107 (nlt ⟨by omega, by omega⟩)).trans (congrFun (congrArg (fun q : KY => q.1) hK) _)
        refine R_aload_n (k := 0) rfl rfl rfl ?_
        refine R_getf_r (j := 15) rfl ft_9_34 sh_96 rfl ?_
        refine R_iload_n (k := 2) rfl rfl rfl ?_
        refine R_iald rfl sh_103 ⟨by omega, by omega⟩ ?_
        refine N_eq (fun x43 e44 => ?_)
        have e45 : x43 = (evOf h).2.1 x5.toNatClampNeg := by rw [e44]; exact congrFun (congrArg (fun q : EV => q.2.1) hE) _
        refine R_nat (b := 1) rfl mt_9_i167 rfl ⟨by decide, by decide, Nat.le_of_ble_eq_true rfl⟩ ?_
        refine N_eq (fun x46 e47 => ?_)
        refine K_iast (a := x5.toInt) (lo := (-2147483648)) (hi' := 2147483647) rfl sh_121 rfl ⟨by omega, by omega⟩ hI (by decide) rfl (i_rng _) fr (by decide) (fun h48 g49 hI fr => ?_)
        have fl4 : FR [121] h h48 := by rw [g49]; exact FR_wI _ _ fl4 (by decide)
        have hK : kyOf h48 = kyOf h := by rw [g49, ky_o (by decide), hK]
        have hE : evOf h48 = evOf h := by rw [g49, ev_o (by decide), hE]
        refine N_iinc (a := x5.toInt) (c := 1) (fun w => [(2, .inl w), (0, .inr (.inr (.inl 96))), (1, .inr (.inr (.inl 121)))]) rfl rfl (fun _ => rfl) (by decide) rfl (by decide) (by omega) (fun x50 q51 => ?_)
        refine R_goto 2 rfl rfl ?_
        exact RUN_weak (psub_cons rfl (psub_cons rfl (psub_cons rfl (psub_nil _)))) (ih6 h48 x50 hI fr fl4 (by omega) (hK) (by rw [g49, wI_self]; exact ks_step (x := x5) (x' := x50) (F := fun j => zMin ((kyOf h).1 j) ((evOf h).2.1 j)) m12 (by subst e47 e45 e42; rfl) (by omega) (by omega)) (hE) (by omega))
  have k52 : (0 : Int32).toInt = 0 := by decide
  exact lp2 _ h (0 : Int32) hI fr (FR.rf _ _) (by decide) (hK) (fun j hj => absurd hj (by omega)) (hE) (Nat.lt_succ_self _)

abbrev qg_X9_keepState_1 (h : PH)  : Option PV → PH → Prop := fun r h' => INV h' ∧ FR [122] h h' ∧ ((∀ j : Nat, j < 6 → h'.1 122 j = zMin ((kyOf h).1 j) ((evOf h).2.1 j)) ∧ (∀ j : Nat, j < 23 → h'.1 122 (6 + j) = (kyOf h).2.2.1 j) ∧ (kyOf h' = kyOf h) ∧ (evOf h' = evOf h) ∧ True) ∧ r = none
set_option maxHeartbeats 4000000 in
set_option maxRecDepth 100000 in
theorem g_X9_keepState_1 (h : PH) (hI : INV h)  : CALL d_X9_keepState [.inr (.inr (.inl 96)), .inr (.inr (.inl 122))] h (qg_X9_keepState_1 h) := by
  show RUN d_X9_keepState 0 [(0, .inr (.inr (.inl 96))), (1, .inr (.inr (.inl 122)))] [] h _
  have fr : FR [122] h h := FR.rf _ _
  have hK : kyOf h = kyOf h := rfl
  have hE : evOf h = evOf h := rfl
  refine R_iconst 0 rfl rfl ?_
  refine R_istore_n (k := 2) rfl [(2, .inl 0), (0, .inr (.inr (.inl 96))), (1, .inr (.inr (.inl 122)))] rfl rfl (by decide) ?_
  have lp2 : ∀ (n1 : Nat) (h3 : PH) (x5 : Int32), INV h3 → FR [122] h h3 → FR [122] h h3 → 0 ≤ x5.toInt ∧ x5.toInt ≤ 6 → (kyOf h3 = kyOf h) → (∀ j : Nat, (j : Int) < x5.toInt → h3.1 122 j = zMin ((kyOf h).1 j) ((evOf h).2.1 j)) → (evOf h3 = evOf h) → (6 - x5.toInt).toNat < n1 → RUN d_X9_keepState 2 [(2, .inl x5), (0, .inr (.inr (.inl 96))), (1, .inr (.inr (.inl 122)))] [] h3 (qg_X9_keepState_1 h) := by
    intro n1
    induction n1 with
    | zero => intro h3 x5 m7 m8 m9 m10 m11 m12 m13 hz; exact absurd hz (Nat.not_lt_zero _)
    | succ n1 ih6 =>
      intro h3 x5 hI fr fl4 m10 m11 m12 m13 hz
      have hK := m11
      have hE := m13
      refine R_iload_n (k := 2) rfl rfl rfl ?_
      refine R_bipush 6 rfl rfl ?_
      refine N_icmp_ge (a := x5.toInt) (b := 6) 32 rfl rfl rfl (by decide) (fun c14 => ?_) (fun c14 => ?_)
      · refine R_iconst 0 rfl rfl ?_
        refine R_istore_n (k := 2) rfl [(2, .inl 0), (0, .inr (.inr (.inl 96))), (1, .inr (.inr (.inl 122)))] rfl rfl (by decide) ?_
        have lp16 : ∀ (n15 : Nat) (h17 : PH) (x19 : Int32), INV h17 → FR [122] h h17 → FR [122] h3 h17 → 0 ≤ x19.toInt ∧ x19.toInt ≤ 23 → (kyOf h17 = kyOf h) → ((∀ j : Nat, j < 6 → h17.1 122 j = zMin ((kyOf h).1 j) ((evOf h).2.1 j)) ∧ (∀ j : Nat, (j : Int) < x19.toInt → h17.1 122 (6 + j) = (kyOf h).2.2.1 j)) → (evOf h17 = evOf h) → (23 - x19.toInt).toNat < n15 → RUN d_X9_keepState 34 [(2, .inl x19), (0, .inr (.inr (.inl 96))), (1, .inr (.inr (.inl 122)))] [] h17 (qg_X9_keepState_1 h) := by
          intro n15
          induction n15 with
          | zero => intro h17 x19 m21 m22 m23 m24 m25 m26 m27 hz; exact absurd hz (Nat.not_lt_zero _)
          | succ n15 ih20 =>
            intro h17 x19 hI fr fl18 m24 m25 m26 m27 hz
            have fl4 : FR [122] h h17 := fl4.trans fl18 (by decide)
            have hK := m25
            have hE := m27
            refine R_iload_n (k := 2) rfl rfl rfl ?_
            refine R_bipush 23 rfl rfl ?_
            refine N_icmp_ge (a := x19.toInt) (b := 23) 58 rfl rfl rfl (by decide) (fun c28 => ?_) (fun c28 => ?_)
            · have hF1 : ∀ j : Nat, j < 6 → h17.1 122 j = zMin ((kyOf h).1 j) ((evOf h).2.1 j) := m26.1
              have hF2 : ∀ j : Nat, j < 23 → h17.1 122 (6 + j) = (kyOf h).2.2.1 j := fun j hj => m26.2 j (by omega)
              exact R_vret rfl rfl ⟨hI, fr, ⟨hF1, hF2, hK, hE, trivial⟩, rfl⟩
            · refine R_aload_n (k := 1) rfl rfl rfl ?_
              refine R_bipush 6 rfl rfl ?_
              refine R_iload_n (k := 2) rfl rfl rfl ?_
              refine R_iadd rfl ?_
              refine N_eq (fun x29 e30 => ?_)
              have q31 : x29.toInt = 6 + x19.toInt := by rw [e30]; exact i_add (by decide) rfl (by omega)
              refine R_aload_n (k := 0) rfl rfl rfl ?_
              refine R_getf_r (j := 24) rfl ft_9_52 sh_96 rfl ?_
              refine R_iload_n (k := 2) rfl rfl rfl ?_
              refine R_iald rfl sh_109 ⟨by omega, by omega⟩ ?_
              refine N_eq (fun x32 e33 => ?_)
              have e34 : x32 = ((kyOf h).2.2.1) x19.toNatClampNeg := by rw [e33]; exact (ky_at109 (nlt ⟨by omega, by omega⟩)).trans (congrFun (congrArg (fun q : KY => q.2.2.1) hK) _)
              refine K_iast (a := x29.toInt) (lo := (-2147483648)) (hi' := 2147483647) rfl sh_122 rfl ⟨by omega, by omega⟩ hI (by decide) rfl (i_rng _) fr (by decide) (fun h35 g36 hI fr => ?_)
              have fl18 : FR [122] h3 h35 := by rw [g36]; exact FR_wI _ _ fl18 (by decide)
              have fl4 : FR [122] h h35 := by rw [g36]; exact FR_wI _ _ fl4 (by decide)
              have hK : kyOf h35 = kyOf h := by rw [g36, ky_o (by decide), hK]
              have hE : evOf h35 = evOf h := by rw [g36, ev_o (by decide), hE]
              refine N_iinc (a := x19.toInt) (c := 1) (fun w => [(2, .inl w), (0, .inr (.inr (.inl 96))), (1, .inr (.inr (.inl 122)))]) rfl rfl (fun _ => rfl) (by decide) rfl (by decide) (by omega) (fun x37 q38 => ?_)
              refine R_goto 34 rfl rfl ?_
              exact RUN_weak (psub_cons rfl (psub_cons rfl (psub_cons rfl (psub_nil _)))) (ih20 h35 x37 hI fr fl18 (by omega) (hK) (⟨by rw [g36, wI_self]; exact ks_keep (x := x19) m26.1 (by omega) (by omega), by rw [g36, wI_self]; exact ks_step2 (x := x19) (x' := x37) (F := (kyOf h).2.2.1) m26.2 (by subst e34 e30; rfl) (by omega) (by omega) (by omega)⟩) (hE) (by omega))
        have k39 : (0 : Int32).toInt = 0 := by decide
        exact lp16 _ h3 (0 : Int32) hI fr (FR.rf _ _) (by decide) (hK) (⟨fun j hj => m12 j (by omega), fun j hj => absurd hj (by omega)⟩) (hE) (Nat.lt_succ_self _)
      · refine R_aload_n (k := 1) rfl rfl rfl ?_
        refine R_iload_n (k := 2) rfl rfl rfl ?_
        refine R_aload_n (k := 0) rfl rfl rfl ?_
        refine R_getf_r (j := 22) rfl ft_9_46 sh_96 rfl ?_
        refine R_iload_n (k := 2) rfl rfl rfl ?_
        refine R_iald rfl sh_107 ⟨by omega, by omega⟩ ?_
        refine N_eq (fun x40 e41 => ?_)
        have e42 : x40 = ((kyOf h).1) x5.toNatClampNeg := by rw [e41]; exact (ky_at107 (nlt ⟨by omega, by omega⟩)).trans (congrFun (congrArg (fun q : KY => q.1) hK) _)
        refine R_aload_n (k := 0) rfl rfl rfl ?_
        refine R_getf_r (j := 15) rfl ft_9_34 sh_96 rfl ?_
        refine R_iload_n (k := 2) rfl rfl rfl ?_
        refine R_iald rfl sh_103 ⟨by omega, by omega⟩ ?_
        refine N_eq (fun x43 e44 => ?_)
        have e45 : x43 = (evOf h).2.1 x5.toNatClampNeg := by rw [e44]; exact congrFun (congrArg (fun q : EV => q.2.1) hE) _
        refine R_nat (b := 1) rfl mt_9_i167 rfl ⟨by decide, by decide, Nat.le_of_ble_eq_true rfl⟩ ?_
        refine N_eq (fun x46 e47 => ?_)
        refine K_iast (a := x5.toInt) (lo := (-2147483648)) (hi' := 2147483647) rfl sh_122 rfl ⟨by omega, by omega⟩ hI (by decide) rfl (i_rng _) fr (by decide) (fun h48 g49 hI fr => ?_)
        have fl4 : FR [122] h h48 := by rw [g49]; exact FR_wI _ _ fl4 (by decide)
        have hK : kyOf h48 = kyOf h := by rw [g49, ky_o (by decide), hK]
        have hE : evOf h48 = evOf h := by rw [g49, ev_o (by decide), hE]
        refine N_iinc (a := x5.toInt) (c := 1) (fun w => [(2, .inl w), (0, .inr (.inr (.inl 96))), (1, .inr (.inr (.inl 122)))]) rfl rfl (fun _ => rfl) (by decide) rfl (by decide) (by omega) (fun x50 q51 => ?_)
        refine R_goto 2 rfl rfl ?_
        exact RUN_weak (psub_cons rfl (psub_cons rfl (psub_cons rfl (psub_nil _)))) (ih6 h48 x50 hI fr fl4 (by omega) (hK) (by rw [g49, wI_self]; exact ks_step (x := x5) (x' := x50) (F := fun j => zMin ((kyOf h).1 j) ((evOf h).2.1 j)) m12 (by subst e47 e45 e42; rfl) (by omega) (by omega)) (hE) (by omega))
  have k52 : (0 : Int32).toInt = 0 := by decide
  exact lp2 _ h (0 : Int32) hI fr (FR.rf _ _) (by decide) (hK) (fun j hj => absurd hj (by omega)) (hE) (Nat.lt_succ_self _)

abbrev qg_X9_setState (h : PH)  : Option PV → PH → Prop := fun r h' => INV h' ∧ FR [107, 108, 109] h h' ∧ ((∀ j : Nat, j < 6 → (kyOf h').1 j = h.1 121 j) ∧ (∀ j : Nat, j < 23 → (kyOf h').2.2.1 j = h.1 121 (6 + j)) ∧ (evOf h' = evOf h) ∧ True) ∧ r = none
set_option maxHeartbeats 4000000 in
set_option maxRecDepth 100000 in
theorem g_X9_setState (h : PH) (hI : INV h)  : CALL d_X9_setState [.inr (.inr (.inl 96)), .inr (.inr (.inl 121))] h (qg_X9_setState h) := by
  show RUN d_X9_setState 0 [(0, .inr (.inr (.inl 96))), (1, .inr (.inr (.inl 121)))] [] h _
  have fr : FR [107, 108, 109] h h := FR.rf _ _
  have hK : kyOf h = kyOf h := rfl
  have hE : evOf h = evOf h := rfl
  refine R_iconst 0 rfl rfl ?_
  refine R_istore_n (k := 2) rfl [(2, .inl 0), (0, .inr (.inr (.inl 96))), (1, .inr (.inr (.inl 121)))] rfl rfl (by decide) ?_
  have lp2 : ∀ (n1 : Nat) (h3 : PH) (x5 : Int32), INV h3 → FR [107, 108, 109] h h3 → FR [107, 108, 109] h h3 → 0 ≤ x5.toInt ∧ x5.toInt ≤ 6 → (∀ j : Nat, (j : Int) < x5.toInt → (kyOf h3).1 j = h.1 121 j) → (evOf h3 = evOf h) → (6 - x5.toInt).toNat < n1 → RUN d_X9_setState 2 [(2, .inl x5), (0, .inr (.inr (.inl 96))), (1, .inr (.inr (.inl 121)))] [] h3 (qg_X9_setState h) := by
    intro n1
    induction n1 with
    | zero => intro h3 x5 m7 m8 m9 m10 m11 m12 hz; exact absurd hz (Nat.not_lt_zero _)
    | succ n1 ih6 =>
      intro h3 x5 hI fr fl4 m10 m11 m12 hz
      have hE := m12
      have hK : kyOf h3 = kyOf h3 := rfl
      refine R_iload_n (k := 2) rfl rfl rfl ?_
      refine R_bipush 6 rfl rfl ?_
      refine N_icmp_ge (a := x5.toInt) (b := 6) 30 rfl rfl rfl (by decide) (fun c13 => ?_) (fun c13 => ?_)
      · refine R_iconst 0 rfl rfl ?_
        refine R_istore_n (k := 2) rfl [(2, .inl 0), (0, .inr (.inr (.inl 96))), (1, .inr (.inr (.inl 121)))] rfl rfl (by decide) ?_
        have lp15 : ∀ (n14 : Nat) (h16 : PH) (x18 : Int32), INV h16 → FR [107, 108, 109] h h16 → FR [109] h3 h16 → 0 ≤ x18.toInt ∧ x18.toInt ≤ 23 → ((∀ j : Nat, j < 6 → (kyOf h16).1 j = h.1 121 j) ∧ (∀ j : Nat, (j : Int) < x18.toInt → (kyOf h16).2.2.1 j = h.1 121 (6 + j))) → (evOf h16 = evOf h) → (23 - x18.toInt).toNat < n14 → RUN d_X9_setState 32 [(2, .inl x18), (0, .inr (.inr (.inl 96))), (1, .inr (.inr (.inl 121)))] [] h16 (qg_X9_setState h) := by
          intro n14
          induction n14 with
          | zero => intro h16 x18 m20 m21 m22 m23 m24 m25 hz; exact absurd hz (Nat.not_lt_zero _)
          | succ n14 ih19 =>
            intro h16 x18 hI fr fl17 m23 m24 m25 hz
            have fl4 : FR [107, 108, 109] h h16 := fl4.trans fl17 (by decide)
            have hE := m25
            have hK : kyOf h16 = kyOf h16 := rfl
            refine R_iload_n (k := 2) rfl rfl rfl ?_
            refine R_bipush 23 rfl rfl ?_
            refine N_icmp_ge (a := x18.toInt) (b := 23) 56 rfl rfl rfl (by decide) (fun c26 => ?_) (fun c26 => ?_)
            · have hF1 : ∀ j : Nat, j < 6 → (kyOf h16).1 j = h.1 121 j := m24.1
              have hF2 : ∀ j : Nat, j < 23 → (kyOf h16).2.2.1 j = h.1 121 (6 + j) := fun j hj => m24.2 j (by omega)
              exact R_vret rfl rfl ⟨hI, fr, ⟨hF1, hF2, hE, trivial⟩, rfl⟩
            · refine R_aload_n (k := 0) rfl rfl rfl ?_
              refine R_getf_r (j := 24) rfl ft_9_52 sh_96 rfl ?_
              refine R_iload_n (k := 2) rfl rfl rfl ?_
              refine R_aload_n (k := 1) rfl rfl rfl ?_
              refine R_bipush 6 rfl rfl ?_
              refine R_iload_n (k := 2) rfl rfl rfl ?_
              refine R_iadd rfl ?_
              refine N_eq (fun x27 e28 => ?_)
              have q29 : x27.toInt = 6 + x18.toInt := by rw [e28]; exact i_add (by decide) rfl (by omega)
              refine R_iald rfl sh_121 ⟨by omega, by omega⟩ ?_
              refine N_eq (fun x30 e31 => ?_)
              have e32 : x30 = h.1 121 x27.toNatClampNeg := by rw [e31]; exact congrFun (fr 121 (by decide)).1 _
              refine K_iast (a := x18.toInt) (lo := (-2147483648)) (hi' := 2147483647) rfl sh_109 rfl ⟨by omega, by omega⟩ hI (by decide) rfl (i_rng _) fr (by decide) (fun h33 g34 hI fr => ?_)
              have fl17 : FR [109] h3 h33 := by rw [g34]; exact FR_wI _ _ fl17 (by decide)
              have fl4 : FR [107, 108, 109] h h33 := by rw [g34]; exact FR_wI _ _ fl4 (by decide)
              have hK : kyOf h33 = ((kyOf h16).1, (kyOf h16).2.1, upd ((kyOf h16).2.2.1) x18.toNatClampNeg x30, (kyOf h16).2.2.2) := by rw [g34, ky_109 (nlt ⟨by omega, by omega⟩), hK] <;> rfl
              have hE : evOf h33 = evOf h := by rw [g34, ev_o (by decide), hE]
              refine N_iinc (a := x18.toInt) (c := 1) (fun w => [(2, .inl w), (0, .inr (.inr (.inl 96))), (1, .inr (.inr (.inl 121)))]) rfl rfl (fun _ => rfl) (by decide) rfl (by decide) (by omega) (fun x35 q36 => ?_)
              refine R_goto 32 rfl rfl ?_
              exact RUN_weak (psub_cons rfl (psub_cons rfl (psub_cons rfl (psub_nil _)))) (ih19 h33 x35 hI fr fl17 (by omega) (⟨by rw [hK]; exact m24.1, by rw [hK]; exact ks_step (x := x18) (x' := x35) (F := fun j => h.1 121 (6 + j)) m24.2 (by rw [e32, i6 (x := x18) (by omega) (by omega)]) (by omega) (by omega)⟩) (hE) (by omega))
        have k37 : (0 : Int32).toInt = 0 := by decide
        exact lp15 _ h3 (0 : Int32) hI fr (FR.rf _ _) (by decide) (⟨fun j hj => m11 j (by omega), fun j hj => absurd hj (by omega)⟩) (hE) (Nat.lt_succ_self _)
      · refine R_aload_n (k := 0) rfl rfl rfl ?_
        refine R_getf_r (j := 22) rfl ft_9_46 sh_96 rfl ?_
        refine R_iload_n (k := 2) rfl rfl rfl ?_
        refine R_aload_n (k := 1) rfl rfl rfl ?_
        refine R_iload_n (k := 2) rfl rfl rfl ?_
        refine R_iald rfl sh_121 ⟨by omega, by omega⟩ ?_
        refine N_eq (fun x38 e39 => ?_)
        have e40 : x38 = h.1 121 x5.toNatClampNeg := by rw [e39]; exact congrFun (fr 121 (by decide)).1 _
        refine K_iast (a := x5.toInt) (lo := (-2147483648)) (hi' := 2147483647) rfl sh_107 rfl ⟨by omega, by omega⟩ hI (by decide) rfl (i_rng _) fr (by decide) (fun h41 g42 hI fr => ?_)
        have fl4 : FR [107, 108, 109] h h41 := by rw [g42]; exact FR_wI _ _ fl4 (by decide)
        have hK : kyOf h41 = (upd ((kyOf h3).1) x5.toNatClampNeg x38, (kyOf h3).2.1, (kyOf h3).2.2.1, (kyOf h3).2.2.2) := by rw [g42, ky_107 (nlt ⟨by omega, by omega⟩), hK] <;> rfl
        have hE : evOf h41 = evOf h := by rw [g42, ev_o (by decide), hE]
        refine R_aload_n (k := 0) rfl rfl rfl ?_
        refine R_getf_r (j := 23) rfl ft_9_49 sh_96 rfl ?_
        refine R_iload_n (k := 2) rfl rfl rfl ?_
        refine R_iconst 0 rfl rfl ?_
        refine K_iast (a := x5.toInt) (lo := (-2147483648)) (hi' := 2147483647) rfl sh_108 rfl ⟨by omega, by omega⟩ hI (by decide) rfl (by decide) fr (by decide) (fun h43 g44 hI fr => ?_)
        have fl4 : FR [107, 108, 109] h h43 := by rw [g44]; exact FR_wI _ _ fl4 (by decide)
        have hK : kyOf h43 = (upd ((kyOf h3).1) x5.toNatClampNeg x38, upd ((kyOf h3).2.1) x5.toNatClampNeg (0), (kyOf h3).2.2.1, (kyOf h3).2.2.2) := by rw [g44, ky_108 (nlt ⟨by omega, by omega⟩), hK] <;> rfl
        have hE : evOf h43 = evOf h := by rw [g44, ev_o (by decide), hE]
        refine N_iinc (a := x5.toInt) (c := 1) (fun w => [(2, .inl w), (0, .inr (.inr (.inl 96))), (1, .inr (.inr (.inl 121)))]) rfl rfl (fun _ => rfl) (by decide) rfl (by decide) (by omega) (fun x45 q46 => ?_)
        refine R_goto 2 rfl rfl ?_
        exact RUN_weak (psub_cons rfl (psub_cons rfl (psub_cons rfl (psub_nil _)))) (ih6 h43 x45 hI fr fl4 (by omega) (by rw [hK]; exact ks_step (x := x5) (x' := x45) (F := h.1 121) m11 e40 (by omega) (by omega)) (hE) (by omega))
  have k47 : (0 : Int32).toInt = 0 := by decide
  exact lp2 _ h (0 : Int32) hI fr (FR.rf _ _) (by decide) (fun j hj => absurd hj (by omega)) (hE) (Nat.lt_succ_self _)

abbrev qg_X9_setState_1 (h : PH)  : Option PV → PH → Prop := fun r h' => INV h' ∧ FR [107, 108, 109] h h' ∧ ((∀ j : Nat, j < 6 → (kyOf h').1 j = h.1 122 j) ∧ (∀ j : Nat, j < 23 → (kyOf h').2.2.1 j = h.1 122 (6 + j)) ∧ (evOf h' = evOf h) ∧ True) ∧ r = none
set_option maxHeartbeats 4000000 in
set_option maxRecDepth 100000 in
theorem g_X9_setState_1 (h : PH) (hI : INV h)  : CALL d_X9_setState [.inr (.inr (.inl 96)), .inr (.inr (.inl 122))] h (qg_X9_setState_1 h) := by
  show RUN d_X9_setState 0 [(0, .inr (.inr (.inl 96))), (1, .inr (.inr (.inl 122)))] [] h _
  have fr : FR [107, 108, 109] h h := FR.rf _ _
  have hK : kyOf h = kyOf h := rfl
  have hE : evOf h = evOf h := rfl
  refine R_iconst 0 rfl rfl ?_
  refine R_istore_n (k := 2) rfl [(2, .inl 0), (0, .inr (.inr (.inl 96))), (1, .inr (.inr (.inl 122)))] rfl rfl (by decide) ?_
  have lp2 : ∀ (n1 : Nat) (h3 : PH) (x5 : Int32), INV h3 → FR [107, 108, 109] h h3 → FR [107, 108, 109] h h3 → 0 ≤ x5.toInt ∧ x5.toInt ≤ 6 → (∀ j : Nat, (j : Int) < x5.toInt → (kyOf h3).1 j = h.1 122 j) → (evOf h3 = evOf h) → (6 - x5.toInt).toNat < n1 → RUN d_X9_setState 2 [(2, .inl x5), (0, .inr (.inr (.inl 96))), (1, .inr (.inr (.inl 122)))] [] h3 (qg_X9_setState_1 h) := by
    intro n1
    induction n1 with
    | zero => intro h3 x5 m7 m8 m9 m10 m11 m12 hz; exact absurd hz (Nat.not_lt_zero _)
    | succ n1 ih6 =>
      intro h3 x5 hI fr fl4 m10 m11 m12 hz
      have hE := m12
      have hK : kyOf h3 = kyOf h3 := rfl
      refine R_iload_n (k := 2) rfl rfl rfl ?_
      refine R_bipush 6 rfl rfl ?_
      refine N_icmp_ge (a := x5.toInt) (b := 6) 30 rfl rfl rfl (by decide) (fun c13 => ?_) (fun c13 => ?_)
      · refine R_iconst 0 rfl rfl ?_
        refine R_istore_n (k := 2) rfl [(2, .inl 0), (0, .inr (.inr (.inl 96))), (1, .inr (.inr (.inl 122)))] rfl rfl (by decide) ?_
        have lp15 : ∀ (n14 : Nat) (h16 : PH) (x18 : Int32), INV h16 → FR [107, 108, 109] h h16 → FR [109] h3 h16 → 0 ≤ x18.toInt ∧ x18.toInt ≤ 23 → ((∀ j : Nat, j < 6 → (kyOf h16).1 j = h.1 122 j) ∧ (∀ j : Nat, (j : Int) < x18.toInt → (kyOf h16).2.2.1 j = h.1 122 (6 + j))) → (evOf h16 = evOf h) → (23 - x18.toInt).toNat < n14 → RUN d_X9_setState 32 [(2, .inl x18), (0, .inr (.inr (.inl 96))), (1, .inr (.inr (.inl 122)))] [] h16 (qg_X9_setState_1 h) := by
          intro n14
          induction n14 with
          | zero => intro h16 x18 m20 m21 m22 m23 m24 m25 hz; exact absurd hz (Nat.not_lt_zero _)
          | succ n14 ih19 =>
            intro h16 x18 hI fr fl17 m23 m24 m25 hz
            have fl4 : FR [107, 108, 109] h h16 := fl4.trans fl17 (by decide)
            have hE := m25
            have hK : kyOf h16 = kyOf h16 := rfl
            refine R_iload_n (k := 2) rfl rfl rfl ?_
            refine R_bipush 23 rfl rfl ?_
            refine N_icmp_ge (a := x18.toInt) (b := 23) 56 rfl rfl rfl (by decide) (fun c26 => ?_) (fun c26 => ?_)
            · have hF1 : ∀ j : Nat, j < 6 → (kyOf h16).1 j = h.1 122 j := m24.1
              have hF2 : ∀ j : Nat, j < 23 → (kyOf h16).2.2.1 j = h.1 122 (6 + j) := fun j hj => m24.2 j (by omega)
              exact R_vret rfl rfl ⟨hI, fr, ⟨hF1, hF2, hE, trivial⟩, rfl⟩
            · refine R_aload_n (k := 0) rfl rfl rfl ?_
              refine R_getf_r (j := 24) rfl ft_9_52 sh_96 rfl ?_
              refine R_iload_n (k := 2) rfl rfl rfl ?_
              refine R_aload_n (k := 1) rfl rfl rfl ?_
              refine R_bipush 6 rfl rfl ?_
              refine R_iload_n (k := 2) rfl rfl rfl ?_
              refine R_iadd rfl ?_
              refine N_eq (fun x27 e28 => ?_)
              have q29 : x27.toInt = 6 + x18.toInt := by rw [e28]; exact i_add (by decide) rfl (by omega)
              refine R_iald rfl sh_122 ⟨by omega, by omega⟩ ?_
              refine N_eq (fun x30 e31 => ?_)
              have e32 : x30 = h.1 122 x27.toNatClampNeg := by rw [e31]; exact congrFun (fr 122 (by decide)).1 _
              refine K_iast (a := x18.toInt) (lo := (-2147483648)) (hi' := 2147483647) rfl sh_109 rfl ⟨by omega, by omega⟩ hI (by decide) rfl (i_rng _) fr (by decide) (fun h33 g34 hI fr => ?_)
              have fl17 : FR [109] h3 h33 := by rw [g34]; exact FR_wI _ _ fl17 (by decide)
              have fl4 : FR [107, 108, 109] h h33 := by rw [g34]; exact FR_wI _ _ fl4 (by decide)
              have hK : kyOf h33 = ((kyOf h16).1, (kyOf h16).2.1, upd ((kyOf h16).2.2.1) x18.toNatClampNeg x30, (kyOf h16).2.2.2) := by rw [g34, ky_109 (nlt ⟨by omega, by omega⟩), hK] <;> rfl
              have hE : evOf h33 = evOf h := by rw [g34, ev_o (by decide), hE]
              refine N_iinc (a := x18.toInt) (c := 1) (fun w => [(2, .inl w), (0, .inr (.inr (.inl 96))), (1, .inr (.inr (.inl 122)))]) rfl rfl (fun _ => rfl) (by decide) rfl (by decide) (by omega) (fun x35 q36 => ?_)
              refine R_goto 32 rfl rfl ?_
              exact RUN_weak (psub_cons rfl (psub_cons rfl (psub_cons rfl (psub_nil _)))) (ih19 h33 x35 hI fr fl17 (by omega) (⟨by rw [hK]; exact m24.1, by rw [hK]; exact ks_step (x := x18) (x' := x35) (F := fun j => h.1 122 (6 + j)) m24.2 (by rw [e32, i6 (x := x18) (by omega) (by omega)]) (by omega) (by omega)⟩) (hE) (by omega))
        have k37 : (0 : Int32).toInt = 0 := by decide
        exact lp15 _ h3 (0 : Int32) hI fr (FR.rf _ _) (by decide) (⟨fun j hj => m11 j (by omega), fun j hj => absurd hj (by omega)⟩) (hE) (Nat.lt_succ_self _)
      · refine R_aload_n (k := 0) rfl rfl rfl ?_
        refine R_getf_r (j := 22) rfl ft_9_46 sh_96 rfl ?_
        refine R_iload_n (k := 2) rfl rfl rfl ?_
        refine R_aload_n (k := 1) rfl rfl rfl ?_
        refine R_iload_n (k := 2) rfl rfl rfl ?_
        refine R_iald rfl sh_122 ⟨by omega, by omega⟩ ?_
        refine N_eq (fun x38 e39 => ?_)
        have e40 : x38 = h.1 122 x5.toNatClampNeg := by rw [e39]; exact congrFun (fr 122 (by decide)).1 _
        refine K_iast (a := x5.toInt) (lo := (-2147483648)) (hi' := 2147483647) rfl sh_107 rfl ⟨by omega, by omega⟩ hI (by decide) rfl (i_rng _) fr (by decide) (fun h41 g42 hI fr => ?_)
        have fl4 : FR [107, 108, 109] h h41 := by rw [g42]; exact FR_wI _ _ fl4 (by decide)
        have hK : kyOf h41 = (upd ((kyOf h3).1) x5.toNatClampNeg x38, (kyOf h3).2.1, (kyOf h3).2.2.1, (kyOf h3).2.2.2) := by rw [g42, ky_107 (nlt ⟨by omega, by omega⟩), hK] <;> rfl
        have hE : evOf h41 = evOf h := by rw [g42, ev_o (by decide), hE]
        refine R_aload_n (k := 0) rfl rfl rfl ?_
        refine R_getf_r (j := 23) rfl ft_9_49 sh_96 rfl ?_
        refine R_iload_n (k := 2) rfl rfl rfl ?_
        refine R_iconst 0 rfl rfl ?_
        refine K_iast (a := x5.toInt) (lo := (-2147483648)) (hi' := 2147483647) rfl sh_108 rfl ⟨by omega, by omega⟩ hI (by decide) rfl (by decide) fr (by decide) (fun h43 g44 hI fr => ?_)
        have fl4 : FR [107, 108, 109] h h43 := by rw [g44]; exact FR_wI _ _ fl4 (by decide)
        have hK : kyOf h43 = (upd ((kyOf h3).1) x5.toNatClampNeg x38, upd ((kyOf h3).2.1) x5.toNatClampNeg (0), (kyOf h3).2.2.1, (kyOf h3).2.2.2) := by rw [g44, ky_108 (nlt ⟨by omega, by omega⟩), hK] <;> rfl
        have hE : evOf h43 = evOf h := by rw [g44, ev_o (by decide), hE]
        refine N_iinc (a := x5.toInt) (c := 1) (fun w => [(2, .inl w), (0, .inr (.inr (.inl 96))), (1, .inr (.inr (.inl 122)))]) rfl rfl (fun _ => rfl) (by decide) rfl (by decide) (by omega) (fun x45 q46 => ?_)
        refine R_goto 2 rfl rfl ?_
        exact RUN_weak (psub_cons rfl (psub_cons rfl (psub_cons rfl (psub_nil _)))) (ih6 h43 x45 hI fr fl4 (by omega) (by rw [hK]; exact ks_step (x := x5) (x' := x45) (F := h.1 122) m11 e40 (by omega) (by omega)) (hE) (by omega))
  have k47 : (0 : Int32).toInt = 0 := by decide
  exact lp2 _ h (0 : Int32) hI fr (FR.rf _ _) (by decide) (fun j hj => absurd hj (by omega)) (hE) (Nat.lt_succ_self _)

abbrev qg_X9_isAlike (h : PH)  : Option PV → PH → Prop := fun r h' => h = h' ∧ ∃ z : Int32, r = some (.inl z) ∧ (((z.toInt = 1) ∨ (z.toInt = 0)) ∧ (z.toInt = 1 → ∀ j : Nat, j < 29 → h.1 121 j = h.1 122 j) ∧ (z.toInt = 0 → ∃ j : Nat, j < 29 ∧ ¬ h.1 121 j = h.1 122 j) ∧ True)
set_option maxHeartbeats 4000000 in
set_option maxRecDepth 100000 in
theorem g_X9_isAlike (h : PH) (hI : INV h)  : CALL d_X9_isAlike [.inr (.inr (.inl 121)), .inr (.inr (.inl 122))] h (qg_X9_isAlike h) := by
  show RUN d_X9_isAlike 0 [(0, .inr (.inr (.inl 121))), (1, .inr (.inr (.inl 122)))] [] h _
  refine R_iconst 0 rfl rfl ?_
  refine R_istore_n (k := 2) rfl [(2, .inl 0), (0, .inr (.inr (.inl 121))), (1, .inr (.inr (.inl 122)))] rfl rfl (by decide) ?_
  have lp2 : ∀ (n1 : Nat) (x3 : Int32), 0 ≤ x3.toInt ∧ x3.toInt ≤ 29 → (∀ j : Nat, (j : Int) < x3.toInt → h.1 121 j = h.1 122 j) → (29 - x3.toInt).toNat < n1 → RUN d_X9_isAlike 2 [(2, .inl x3), (0, .inr (.inr (.inl 121))), (1, .inr (.inr (.inl 122)))] [] h (qg_X9_isAlike h) := by
    intro n1
    induction n1 with
    | zero => intro x3 m5 m6 hz; exact absurd hz (Nat.not_lt_zero _)
    | succ n1 ih4 =>
      intro x3 m5 m6 hz
      refine R_iload_n (k := 2) rfl rfl rfl ?_
      refine R_bipush 29 rfl rfl ?_
      refine N_icmp_ge (a := x3.toInt) (b := 29) 25 rfl rfl rfl (by decide) (fun c7 => ?_) (fun c7 => ?_)
      · refine R_iconst 1 rfl rfl ?_
        have k8 : (1 : Int32).toInt = 1 := by decide
        exact R_iret rfl rfl rfl ⟨rfl, _, rfl, ⟨by rw [show (1 : Int32).toInt = 1 from rfl] <;> omega, (fun _ j hj => m6 j (by omega)), (fun hc => absurd hc (by decide)), trivial⟩⟩
      · refine R_aload_n (k := 0) rfl rfl rfl ?_
        refine R_iload_n (k := 2) rfl rfl rfl ?_
        refine R_iald rfl sh_121 ⟨by omega, by omega⟩ ?_
        refine N_eq (fun x9 e10 => ?_)
        refine R_aload_n (k := 1) rfl rfl rfl ?_
        refine R_iload_n (k := 2) rfl rfl rfl ?_
        refine R_iald rfl sh_122 ⟨by omega, by omega⟩ ?_
        refine N_eq (fun x11 e12 => ?_)
        refine N_icmp_eq (a := x9.toInt) (b := x11.toInt) 19 rfl rfl rfl rfl (fun c13 => ?_) (fun c13 => ?_)
        · refine N_iinc (a := x3.toInt) (c := 1) (fun w => [(2, .inl w), (0, .inr (.inr (.inl 121))), (1, .inr (.inr (.inl 122)))]) rfl rfl (fun _ => rfl) (by decide) rfl (by decide) (by omega) (fun x14 q15 => ?_)
          refine R_goto 2 rfl rfl ?_
          exact RUN_weak (psub_cons rfl (psub_cons rfl (psub_cons rfl (psub_nil _)))) (ih4 x14 (by omega) (al_step (x := x3) (x' := x14) m6 (by rw [← e10, ← e12]; exact Int32.toInt_inj.mp (by omega)) (by omega) (by omega)) (by omega))
        · refine R_iconst 0 rfl rfl ?_
          have k16 : (0 : Int32).toInt = 0 := by decide
          exact R_iret rfl rfl rfl ⟨rfl, _, rfl, ⟨by rw [show (0 : Int32).toInt = 0 from rfl] <;> omega, (fun hc => absurd hc (by decide)), (fun _ => ⟨x3.toNatClampNeg, nlt ⟨by omega, by omega⟩, fun q => absurd (congrArg Int32.toInt (e10.trans (q.trans e12.symm))) (by omega)⟩), trivial⟩⟩
  have k17 : (0 : Int32).toInt = 0 := by decide
  exact lp2 _ (0 : Int32) (by decide) (fun j hj => absurd hj (by omega)) (Nat.lt_succ_self _)

abbrev qg_X9_fullOf (h : PH)  : Option PV → PH → Prop := fun r h' => h = h' ∧ ∃ z : Int32, r = some (.inl z) ∧ (((0 ≤ z.toInt ∧ z.toInt ≤ 6)) ∧ (z.toInt = 0 ∨ ∃ m : Int32, 0 ≤ m.toInt ∧ m.toInt < (h.1 97 0).toInt ∧ z.toInt ≤ bzy h m) ∧ True)
set_option maxHeartbeats 4000000 in
set_option maxRecDepth 100000 in
theorem g_X9_fullOf (h : PH) (hI : INV h)  : CALL d_X9_fullOf [.inr (.inr (.inl 96))] h (qg_X9_fullOf h) := by
  show RUN d_X9_fullOf 0 [(0, .inr (.inr (.inl 96)))] [] h _
  have b1 : (0 : Int) ≤ (h.1 97 0).toInt ∧ (h.1 97 0).toInt ≤ 60 := hI.1 97 0
  refine R_iconst 0 rfl rfl ?_
  refine R_istore_n (k := 1) rfl [(1, .inl 0), (0, .inr (.inr (.inl 96)))] rfl rfl (by decide) ?_
  refine R_iconst 0 rfl rfl ?_
  refine R_istore_n (k := 2) rfl [(2, .inl 0), (1, .inl 0), (0, .inr (.inr (.inl 96)))] rfl rfl (by decide) ?_
  have lp3 : ∀ (n2 : Nat) (x4 : Int32) (x5 : Int32), 0 ≤ x4.toInt ∧ x4.toInt ≤ 6 → 0 ≤ x5.toInt ∧ x5.toInt ≤ 60 → x5.toInt ≤ (h.1 97 0).toInt + 0 → ((x4.toInt = 0 ∨ ∃ m : Int32, 0 ≤ m.toInt ∧ m.toInt < (h.1 97 0).toInt ∧ x4.toInt ≤ bzy h m)) → (60 - x5.toInt).toNat < n2 → RUN d_X9_fullOf 4 [(2, .inl x5), (1, .inl x4), (0, .inr (.inr (.inl 96)))] [] h (qg_X9_fullOf h) := by
    intro n2
    induction n2 with
    | zero => intro x4 x5 m7 m8 m9 m10 hz; exact absurd hz (Nat.not_lt_zero _)
    | succ n2 ih6 =>
      intro x4 x5 m7 m8 m9 m10 hz
      refine R_iload_n (k := 2) rfl rfl rfl ?_
      refine R_aload_n (k := 0) rfl rfl rfl ?_
      refine R_callV (v := .inr (.inr (.inl 96))) (As := []) (rest := [.inl x5]) rfl mt_9_i129 pp_X9_last (by decide) rfl rfl rfl (Nat.le_of_ble_eq_true rfl) (Nat.le_of_ble_eq_true rfl) ((k_X9_last h hI).mono (fun r11 h12 p13 => ?_))
      obtain ⟨rfl, x14, rfl, q15⟩ := p13
      show RUN d_X9_fullOf 9 [(2, .inl x5), (1, .inl x4), (0, .inr (.inr (.inl 96)))] [.inl x14, .inl x5] h _
      refine N_icmp_gt (a := x5.toInt) (b := x14.toInt) 31 rfl rfl rfl rfl (fun c16 => ?_) (fun c16 => ?_)
      · refine R_iload_n (k := 1) rfl rfl rfl ?_
        exact R_iret rfl rfl rfl ⟨rfl, _, rfl, ⟨by omega, m10, trivial⟩⟩
      · refine R_iload_n (k := 1) rfl rfl rfl ?_
        refine R_aload_n (k := 0) rfl rfl rfl ?_
        refine R_iload_n (k := 2) rfl rfl rfl ?_
        refine R_callV (v := .inr (.inr (.inl 96))) (As := [.inl x5]) (rest := [.inl x4]) rfl mt_9_i324 pp_X9_busyOf (by decide) rfl rfl rfl (Nat.le_of_ble_eq_true rfl) (Nat.le_of_ble_eq_true rfl) ((CALL_ans (k_X9_busyOf h hI x5 (by omega))).mono (fun r17 h18 p19 => ?_))
        obtain ⟨⟨rfl, x20, rfl, q21⟩, za22⟩ := p19
        have za22 := za22 _ rfl
        show RUN d_X9_fullOf 18 [(2, .inl x5), (1, .inl x4), (0, .inr (.inr (.inl 96)))] [.inl x20, .inl x4] h _
        refine R_callS (As := [.inl x20]) (rest := [.inl x4]) rfl mt_9_i336 (by decide) pp_X9_bits (by decide) rfl rfl (Nat.le_of_ble_eq_true rfl) (Nat.le_of_ble_eq_true rfl) ((CALL_ans (g_X9_bits h hI x20)).mono (fun r23 h24 p25 => ?_))
        obtain ⟨⟨rfl, x26, rfl, q27⟩, za28⟩ := p25
        have za28 := za28 _ rfl
        show RUN d_X9_fullOf 21 [(2, .inl x5), (1, .inl x4), (0, .inr (.inr (.inl 96)))] [.inl x26, .inl x4] h _
        refine N_max (a := x4.toInt) (b := x26.toInt) rfl mt_9_i339 rfl rfl ⟨by decide, by decide, Nat.le_of_ble_eq_true rfl⟩ (fun x29 q30 => ?_)
        refine R_istore_n (k := 1) rfl [(1, .inl x29), (2, .inl x5), (0, .inr (.inr (.inl 96)))] rfl rfl (by decide) ?_
        refine N_iinc (a := x5.toInt) (c := 1) (fun w => [(2, .inl w), (1, .inl x29), (0, .inr (.inr (.inl 96)))]) rfl rfl (fun _ => rfl) (by decide) rfl (by decide) (by omega) (fun x31 q32 => ?_)
        refine R_goto 4 rfl rfl ?_
        exact RUN_weak (psub_cons rfl (psub_cons rfl (psub_cons rfl (psub_nil _)))) (ih6 x29 x31 (by omega) (by omega) (by omega) (Or.elim (show x29.toInt = x4.toInt ∨ x29.toInt = x26.toInt by omega) (fun c => by rw [c]; exact m10) (fun c => Or.inr ⟨x5, by omega, by omega, by rw [c]; unfold bzy; rw [← za22, ← za28]; exact Int.le_refl _⟩)) (by omega))
  have k33 : (0 : Int32).toInt = 0 := by decide
  have k34 : (0 : Int32).toInt = 0 := by decide
  exact lp3 _ (0 : Int32) (0 : Int32) (by decide) (by decide) (by omega) (Or.inl (by decide)) (Nat.lt_succ_self _)

theorem full_fact (h : PH) (hI : INV h) : fuO h = 0 ∨ ∃ m : Int32, 0 ≤ m.toInt ∧ m.toInt < (h.1 97 0).toInt ∧ fuO h ≤ bzy h m := by
  obtain ⟨f, r, h', h1, ⟨⟨rfl, z, rfl, q, zq, -⟩, za⟩⟩ := CALL_ans (g_X9_fullOf h hI)
  unfold fuO
  rw [← za z rfl]
  exact zq
abbrev qg_X9_crowded (h : PH)  : Option PV → PH → Prop := fun r h' => INV h' ∧ FR [96, 103, 104, 105, 106, 107, 108, 109, 110, 111, 112, 113, 114, 115, 116, 117, 118, 119] h h' ∧ (True) ∧ ∃ z : Int32, r = some (.inl z) ∧ (((-2) ≤ z.toInt ∧ z.toInt ≤ 59))
set_option maxHeartbeats 4000000 in
set_option maxRecDepth 100000 in
theorem g_X9_crowded (h : PH) (hI : INV h)  : CALL d_X9_crowded [.inr (.inr (.inl 96))] h (qg_X9_crowded h) := by
  show RUN d_X9_crowded 0 [(0, .inr (.inr (.inl 96)))] [] h _
  have fr : FR [96, 103, 104, 105, 106, 107, 108, 109, 110, 111, 112, 113, 114, 115, 116, 117, 118, 119] h h := FR.rf _ _
  refine R_aload_n (k := 0) rfl rfl rfl ?_
  have b1 : (0 : Int) ≤ (h.1 97 0).toInt ∧ (h.1 97 0).toInt ≤ 60 := hI.1 97 0
  have e2 : 0 < (h.1 97 10).toInt → 1 ≤ (h.1 97 0).toInt := hI.2.2.2.2.2.1.2.1
  refine R_callV (v := .inr (.inr (.inl 96))) (As := []) (rest := []) rfl mt_9_i307 pp_X9_asksBrigade (by decide) rfl rfl rfl (Nat.le_of_ble_eq_true rfl) (Nat.le_of_ble_eq_true rfl) ((k_X9_asksBrigade h hI).mono (fun r3 h4 p5 => ?_))
  obtain ⟨hJ, fj, -, x6, rfl, q7 | q7⟩ := p5
  · have f8 := fj
    have fr := fr.trans fj (by decide)
    have hI := hJ
    have s9 : (h4.1 97 10).toInt = (h.1 97 10).toInt := by rw [(f8 97 (by decide)).1]
    have s10 : (h4.1 97 0).toInt = (h.1 97 0).toInt := by rw [(f8 97 (by decide)).1]
    show RUN d_X9_crowded 4 [(0, .inr (.inr (.inl 96)))] [.inl x6] h4 _
    refine N_if_ne (a := x6.toInt) 10 rfl rfl rfl (fun c11 => ?_) (fun c11 => ?_)
    · exfalso; omega
    · refine R_bipush (-2) rfl rfl ?_
      exact R_iret rfl rfl rfl ⟨hI, fr, trivial, _, rfl, by rw [show ((-2) : Int32).toInt = (-2) from rfl] <;> omega⟩
  · have f12 := fj
    have fr := fr.trans fj (by decide)
    have hI := hJ
    have s13 : (h4.1 97 10).toInt = (h.1 97 10).toInt := by rw [(f12 97 (by decide)).1]
    have s14 : (h4.1 97 0).toInt = (h.1 97 0).toInt := by rw [(f12 97 (by decide)).1]
    show RUN d_X9_crowded 4 [(0, .inr (.inr (.inl 96)))] [.inl x6] h4 _
    refine N_if_ne (a := x6.toInt) 10 rfl rfl rfl (fun c15 => ?_) (fun c15 => ?_)
    · have hfu := full_fact h4 hI
      refine R_iconst 0 rfl rfl ?_
      refine R_istore_n (k := 1) rfl [(1, .inl 0), (0, .inr (.inr (.inl 96)))] rfl rfl (by decide) ?_
      have lp17 : ∀ (n16 : Nat) (x18 : Int32), 0 ≤ x18.toInt ∧ x18.toInt ≤ 59 → ((fuO h4 = 0 ∨ ∃ m : Int32, x18.toInt ≤ m.toInt ∧ m.toInt < (h4.1 97 0).toInt ∧ fuO h4 ≤ bzy h4 m)) → (0 ≤ x18.toInt ∧ x18.toInt < (h4.1 97 0).toInt) → ((h4.1 97 0).toInt - x18.toInt).toNat < n16 → RUN d_X9_crowded 12 [(1, .inl x18), (0, .inr (.inr (.inl 96)))] [] h4 (qg_X9_crowded h) := by
        intro n16
        induction n16 with
        | zero => intro x18 m20 m21 m22 hz; exact absurd hz (Nat.not_lt_zero _)
        | succ n16 ih19 =>
          intro x18 m20 m21 m22 hz
          refine R_aload_n (k := 0) rfl rfl rfl ?_
          refine R_iload_n (k := 1) rfl rfl rfl ?_
          refine R_callV (v := .inr (.inr (.inl 96))) (As := [.inl x18]) (rest := []) rfl mt_9_i324 pp_X9_busyOf (by decide) rfl rfl rfl (Nat.le_of_ble_eq_true rfl) (Nat.le_of_ble_eq_true rfl) ((CALL_ans (k_X9_busyOf h4 hI x18 (by omega))).mono (fun r23 h24 p25 => ?_))
          obtain ⟨⟨rfl, x26, rfl, q27⟩, za28⟩ := p25
          have za28 := za28 _ rfl
          show RUN d_X9_crowded 17 [(1, .inl x18), (0, .inr (.inr (.inl 96)))] [.inl x26] h4 _
          refine R_callS (As := [.inl x26]) (rest := []) rfl mt_9_i336 (by decide) pp_X9_bits (by decide) rfl rfl (Nat.le_of_ble_eq_true rfl) (Nat.le_of_ble_eq_true rfl) ((CALL_ans (g_X9_bits h4 hI x26)).mono (fun r29 h30 p31 => ?_))
          obtain ⟨⟨rfl, x32, rfl, q33⟩, za34⟩ := p31
          have za34 := za34 _ rfl
          show RUN d_X9_crowded 20 [(1, .inl x18), (0, .inr (.inr (.inl 96)))] [.inl x32] h4 _
          refine R_aload_n (k := 0) rfl rfl rfl ?_
          refine R_callV (v := .inr (.inr (.inl 96))) (As := []) (rest := [.inl x32]) rfl mt_9_i342 pp_X9_fullOf (by decide) rfl rfl rfl (Nat.le_of_ble_eq_true rfl) (Nat.le_of_ble_eq_true rfl) ((CALL_ans (g_X9_fullOf h4 hI)).mono (fun r35 h36 p37 => ?_))
          obtain ⟨⟨rfl, x39, rfl, q40, zq38, -⟩, za41⟩ := p37
          have za41 := za41 _ rfl
          show RUN d_X9_crowded 24 [(1, .inl x18), (0, .inr (.inr (.inl 96)))] [.inl x39, .inl x32] h4 _
          refine N_icmp_ge (a := x32.toInt) (b := x39.toInt) 33 rfl rfl rfl rfl (fun c42 => ?_) (fun c42 => ?_)
          · refine R_iload_n (k := 1) rfl rfl rfl ?_
            exact R_iret rfl rfl rfl ⟨hI, fr, trivial, _, rfl, by omega⟩
          · refine N_iinc (a := x18.toInt) (c := 1) (fun w => [(1, .inl w), (0, .inr (.inr (.inl 96)))]) rfl rfl (fun _ => rfl) (by decide) rfl (by decide) (by omega) (fun x43 q44 => ?_)
            refine R_goto 12 rfl rfl ?_
            have bz45 : bzy h4 x18 = x32.toInt := by unfold bzy; rw [← za28, ← za34]
            have fu46 : fuO h4 = x39.toInt := by unfold fuO; rw [← za41]
            obtain ⟨mm47, cm1, cm2, cm3⟩ := crowd_next m21 (by omega) (by omega)
            exact RUN_weak (psub_cons rfl (psub_cons rfl (psub_nil _))) (ih19 x43 (by omega) (Or.inr ⟨mm47, by omega, cm2, cm3⟩) (by omega) (by omega))
      have k48 : (0 : Int32).toInt = 0 := by decide
      exact lp17 _ (0 : Int32) (by decide) (Or.elim hfu (fun c => Or.inl c) (fun c => Or.inr (by obtain ⟨m, c1, c2, c3⟩ := c; exact ⟨m, by omega, c2, c3⟩))) (by omega) (Nat.lt_succ_self _)
    · exfalso; omega

abbrev qg_X9_enough (h : PH)  : Option PV → PH → Prop := fun r h' => INV h' ∧ FR [96, 103, 104, 105, 106, 107, 108, 109, 110, 111, 112, 113, 114, 115, 116, 117, 118, 119] h h' ∧ (True) ∧ ∃ z : Int32, r = some (.inl z) ∧ (((-2) ≤ z.toInt ∧ z.toInt ≤ 8))
set_option maxHeartbeats 4000000 in
set_option maxRecDepth 100000 in
theorem g_X9_enough (h : PH) (hI : INV h)  : CALL d_X9_enough [.inr (.inr (.inl 96))] h (qg_X9_enough h) := by
  show RUN d_X9_enough 0 [(0, .inr (.inr (.inl 96)))] [] h _
  have fr : FR [96, 103, 104, 105, 106, 107, 108, 109, 110, 111, 112, 113, 114, 115, 116, 117, 118, 119] h h := FR.rf _ _
  refine R_aload_n (k := 0) rfl rfl rfl ?_
  have b1 : (0 : Int) ≤ (h.1 97 0).toInt ∧ (h.1 97 0).toInt ≤ 60 := hI.1 97 0
  have e2 : 0 < (h.1 97 10).toInt → 1 ≤ (h.1 97 0).toInt := hI.2.2.2.2.2.1.2.1
  refine R_callV (v := .inr (.inr (.inl 96))) (As := []) (rest := []) rfl mt_9_i301 pp_X9_isBrigade (by decide) rfl rfl rfl (Nat.le_of_ble_eq_true rfl) (Nat.le_of_ble_eq_true rfl) ((k_X9_isBrigade h hI).mono (fun r3 h4 p5 => ?_))
  obtain ⟨rfl, x6, rfl, q7 | q7⟩ := p5
  · show RUN d_X9_enough 4 [(0, .inr (.inr (.inl 96)))] [.inl x6] h _
    refine N_if_ne (a := x6.toInt) 10 rfl rfl rfl (fun c8 => ?_) (fun c8 => ?_)
    · exfalso; omega
    · refine R_bipush (-2) rfl rfl ?_
      exact R_iret rfl rfl rfl ⟨hI, fr, trivial, _, rfl, by rw [show ((-2) : Int32).toInt = (-2) from rfl] <;> omega⟩
  · show RUN d_X9_enough 4 [(0, .inr (.inr (.inl 96)))] [.inl x6] h _
    refine N_if_ne (a := x6.toInt) 10 rfl rfl rfl (fun c9 => ?_) (fun c9 => ?_)
    · refine R_aload_n (k := 0) rfl rfl rfl ?_
      refine R_callV (v := .inr (.inr (.inl 96))) (As := []) (rest := []) rfl mt_9_i298 pp_X9_asItIs (by decide) rfl rfl rfl (Nat.le_of_ble_eq_true rfl) (Nat.le_of_ble_eq_true rfl) ((g_X9_asItIs h hI).mono (fun r10 h11 p12 => ?_))
      obtain ⟨hJ, fj, ⟨kp13, xq14, xq15, xq16, -⟩, rfl⟩ := p12
      have f17 := fj
      have fr := fr.trans fj (by decide)
      have hI := hJ
      have s18 : (h11.1 97 10).toInt = (h.1 97 10).toInt := by rw [(f17 97 (by decide)).1]
      have s19 : (h11.1 97 0).toInt = (h.1 97 0).toInt := by rw [(f17 97 (by decide)).1]
      have b20 : (0 : Int) ≤ (h11.1 97 5).toInt ∧ (h11.1 97 5).toInt ≤ 6 := hI.1 97 5
      have e21 : 0 < (h11.1 97 5).toInt → 1 ≤ (h11.1 97 0).toInt := hI.2.2.2.2.2.1.2.2
      have b22 : (0 : Int) ≤ (h11.1 97 1).toInt ∧ (h11.1 97 1).toInt ≤ 8 := hI.1 97 1
      have b23 : (0 : Int) ≤ (h11.1 96 18).toInt ∧ (h11.1 96 18).toInt ≤ 6 := hI.1 96 18
      show RUN d_X9_enough 14 [(0, .inr (.inr (.inl 96)))] [] h11 _
      obtain ⟨e0, he0⟩ : ∃ e0, evOf h11 = e0 := ⟨_, rfl⟩
      obtain ⟨S0, hS0⟩ : ∃ S0 : Nat, (h11.1 97 0).toInt.toNat = S0 := ⟨_, rfl⟩
      refine R_aload_n (k := 0) rfl rfl rfl ?_
      refine R_bipush 8 rfl rfl ?_
      refine K_putf (j := 19) (lo := (-2147483648)) (hi' := 2147483647) rfl ft_9_256 sh_96 rfl hI (by decide) rfl (by decide) fr (by decide) (fun h24 g25 hI fr => ?_)
      have s26 : (h24.1 97 10).toInt = (h11.1 97 10).toInt := by rw [g25, wI_ne _ _ _ (by decide)]
      have s27 : (h24.1 97 0).toInt = (h11.1 97 0).toInt := by rw [g25, wI_ne _ _ _ (by decide)]
      have s28 : (h24.1 97 5).toInt = (h11.1 97 5).toInt := by rw [g25, wI_ne _ _ _ (by decide)]
      have s29 : (h24.1 97 1).toInt = (h11.1 97 1).toInt := by rw [g25, wI_ne _ _ _ (by decide)]
      have s30 : (h24.1 96 18).toInt = (h11.1 96 18).toInt := by rw [g25, wI_at (by decide)]
      have s31 : (h24.1 96 19).toInt = 8 := by rw [g25, wI_is]; rfl
      have hE : evOf h24 = evB e0 8 := by rw [g25, ev_19, he0]
      refine R_aload_n (k := 0) rfl rfl rfl ?_
      refine R_callV (v := .inr (.inr (.inl 96))) (As := []) (rest := []) rfl mt_9_i389 pp_X9_waterNow (by decide) rfl rfl rfl (Nat.le_of_ble_eq_true rfl) (Nat.le_of_ble_eq_true rfl) ((g_X9_waterNow h24 hI (by omega)).mono (fun r32 h33 p34 => ?_))
      obtain ⟨hJ, fj, ⟨kp35, kp36, kp37, kp38, kp39, kp40, xq41, -⟩, x43, rfl, q44, zq42, -⟩ := p34
      have f45 := fj
      have fr := fr.trans fj (by decide)
      have hI := hJ
      have s46 : (h33.1 97 10).toInt = (h24.1 97 10).toInt := by rw [(f45 97 (by decide)).1]
      have s47 : (h33.1 97 0).toInt = (h24.1 97 0).toInt := by rw [(f45 97 (by decide)).1]
      have s48 : (h33.1 97 5).toInt = (h24.1 97 5).toInt := by rw [(f45 97 (by decide)).1]
      have s49 : (h33.1 97 1).toInt = (h24.1 97 1).toInt := by rw [(f45 97 (by decide)).1]
      show RUN d_X9_enough 24 [(0, .inr (.inr (.inl 96)))] [.inl x43] h33 _
      have hm8 : x43 = (zRun (evB e0 8) S0).2.2.2 := zq42.trans (by rw [hE, show (h24.1 97 0).toInt.toNat = S0 by omega])
      have hE : evOf h33 = evB e0 8 := xq41.trans hE
      refine R_istore_n (k := 1) rfl [(1, .inl x43), (0, .inr (.inr (.inl 96)))] rfl rfl (by decide) ?_
      refine R_aload_n (k := 0) rfl rfl rfl ?_
      refine R_iconst 1 rfl rfl ?_
      refine K_putf (j := 19) (lo := (-2147483648)) (hi' := 2147483647) rfl ft_9_256 sh_96 rfl hI (by decide) rfl (by decide) fr (by decide) (fun h50 g51 hI fr => ?_)
      have s52 : (h50.1 97 10).toInt = (h33.1 97 10).toInt := by rw [g51, wI_ne _ _ _ (by decide)]
      have s53 : (h50.1 97 0).toInt = (h33.1 97 0).toInt := by rw [g51, wI_ne _ _ _ (by decide)]
      have s54 : (h50.1 97 5).toInt = (h33.1 97 5).toInt := by rw [g51, wI_ne _ _ _ (by decide)]
      have s55 : (h50.1 97 1).toInt = (h33.1 97 1).toInt := by rw [g51, wI_ne _ _ _ (by decide)]
      have s56 : (h50.1 96 18).toInt = (h33.1 96 18).toInt := by rw [g51, wI_at (by decide)]
      have s57 : (h50.1 96 19).toInt = 1 := by rw [g51, wI_is]; rfl
      have lp59 : ∀ (n58 : Nat) (h60 : PH), INV h60 → FR [96, 103, 104, 105, 106, 107, 108, 109, 110, 111, 112, 113, 114, 115, 116, 117, 118, 119] h h60 → FR [96, 107, 108, 109, 110, 111, 112, 113, 114, 115, 116, 117, 118, 119] h50 h60 → (h60.1 96 18).toInt = (h50.1 96 18).toInt → 1 ≤ (h60.1 96 19).toInt ∧ (h60.1 96 19).toInt ≤ 8 → (evOf h60 = evB e0 (h60.1 96 19)) → (1 ≤ (h60.1 96 19).toInt ∧ (h60.1 96 19).toInt ≤ 8) → (8 - (h60.1 96 19).toInt).toNat < n58 → RUN d_X9_enough 30 [(1, .inl x43), (0, .inr (.inr (.inl 96)))] [] h60 (qg_X9_enough h) := by
        intro n58
        induction n58 with
        | zero => intro h60 m63 m64 m65 m66 m67 m68 m69 hz; exact absurd hz (Nat.not_lt_zero _)
        | succ n58 ih62 =>
          intro h60 hI fr fl61 m66 m67 m68 m69 hz
          have s70 : (h60.1 97 10).toInt = (h50.1 97 10).toInt := by rw [(fl61 97 (by decide)).1]
          have s71 : (h60.1 97 0).toInt = (h50.1 97 0).toInt := by rw [(fl61 97 (by decide)).1]
          have s72 : (h60.1 97 5).toInt = (h50.1 97 5).toInt := by rw [(fl61 97 (by decide)).1]
          have s73 : (h60.1 97 1).toInt = (h50.1 97 1).toInt := by rw [(fl61 97 (by decide)).1]
          refine R_aload_n (k := 0) rfl rfl rfl ?_
          refine R_callV (v := .inr (.inr (.inl 96))) (As := []) (rest := []) rfl mt_9_i389 pp_X9_waterNow (by decide) rfl rfl rfl (Nat.le_of_ble_eq_true rfl) (Nat.le_of_ble_eq_true rfl) ((g_X9_waterNow h60 hI (by omega)).mono (fun r74 h75 p76 => ?_))
          obtain ⟨hJ, fj, ⟨kp77, kp78, kp79, kp80, kp81, kp82, xq83, -⟩, x85, rfl, q86, zq84, -⟩ := p76
          have f87 := fj
          have fr := fr.trans fj (by decide)
          have hI := hJ
          have fl61 : FR [96, 107, 108, 109, 110, 111, 112, 113, 114, 115, 116, 117, 118, 119] h50 h75 := fl61.trans fj (by decide)
          have s88 : (h75.1 97 10).toInt = (h60.1 97 10).toInt := by rw [(f87 97 (by decide)).1]
          have s89 : (h75.1 97 0).toInt = (h60.1 97 0).toInt := by rw [(f87 97 (by decide)).1]
          have s90 : (h75.1 97 5).toInt = (h60.1 97 5).toInt := by rw [(f87 97 (by decide)).1]
          have s91 : (h75.1 97 1).toInt = (h60.1 97 1).toInt := by rw [(f87 97 (by decide)).1]
          show RUN d_X9_enough 34 [(1, .inl x43), (0, .inr (.inr (.inl 96)))] [.inl x85] h75 _
          refine R_iload_n (k := 1) rfl rfl rfl ?_
          refine N_icmp_ge (a := x85.toInt) (b := x43.toInt) 51 rfl rfl rfl rfl (fun c92 => ?_) (fun c92 => ?_)
          · refine R_aload_n (k := 0) rfl rfl rfl ?_
            refine R_getf_i (j := 19) rfl ft_9_256 sh_96 rfl ?_
            exact R_iret rfl rfl rfl ⟨hI, fr, trivial, _, rfl, by omega⟩
          · refine R_aload_n (k := 0) rfl rfl rfl ?_
            refine R_dup_r rfl ?_
            refine R_getf_i (j := 19) rfl ft_9_256 sh_96 rfl ?_
            refine R_iconst 1 rfl rfl ?_
            refine N_iadd (a := (h75.1 96 19).toInt) (b := 1) rfl rfl (by decide) (by omega) (fun x93 q94 => ?_)
            refine K_putf (j := 19) (lo := (-2147483648)) (hi' := 2147483647) rfl ft_9_256 sh_96 rfl hI (by decide) rfl (i_rng _) fr (by decide) (fun h95 g96 hI fr => ?_)
            have fl61 : FR [96, 107, 108, 109, 110, 111, 112, 113, 114, 115, 116, 117, 118, 119] h50 h95 := by rw [g96]; exact FR_wI _ _ fl61 (by decide)
            have s97 : (h95.1 97 10).toInt = (h75.1 97 10).toInt := by rw [g96, wI_ne _ _ _ (by decide)]
            have s98 : (h95.1 97 0).toInt = (h75.1 97 0).toInt := by rw [g96, wI_ne _ _ _ (by decide)]
            have s99 : (h95.1 97 5).toInt = (h75.1 97 5).toInt := by rw [g96, wI_ne _ _ _ (by decide)]
            have s100 : (h95.1 97 1).toInt = (h75.1 97 1).toInt := by rw [g96, wI_ne _ _ _ (by decide)]
            have s101 : (h95.1 96 18).toInt = (h75.1 96 18).toInt := by rw [g96, wI_at (by decide)]
            have s102 : (h95.1 96 19).toInt = x93.toInt := by rw [g96, wI_is]
            refine R_goto 30 rfl rfl ?_
            have hne : ¬ (h60.1 96 19).toInt = 8 := fun c8 => by
              have e8 : h60.1 96 19 = 8 := i_of 8 (c8.trans (by decide))
              have e9 : x85 = (zRun (evB e0 8) S0).2.2.2 := zq84.trans (by rw [m68, e8, show (h60.1 97 0).toInt.toNat = S0 by omega])
              rw [← hm8] at e9
              rw [e9] at c92
              omega
            exact RUN_weak (psub_cons rfl (psub_cons rfl (psub_nil _))) (ih62 h95 hI fr fl61 (by omega) (by omega) (by rw [g96, ev_19, xq83, m68, evB_evB, wI_is]) (by omega) (by omega))
      exact lp59 _ h50 hI fr (FR.rf _ _) rfl (by omega) (by rw [g51, ev_19, hE, evB_evB, wI_is]) (by omega) (Nat.lt_succ_self _)
    · exfalso; omega
