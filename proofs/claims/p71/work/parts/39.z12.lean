abbrev qg_X9_brigade (h : PH)  : Option PV → PH → Prop := fun r h' => INV h' ∧ FR [96, 97, 102] h h' ∧ (True) ∧ ∃ z : Int32, r = some (.inl z) ∧ ((True))
set_option maxHeartbeats 4000000 in
set_option maxRecDepth 100000 in
theorem g_X9_brigade (h : PH) (hI : INV h)  : CALL d_X9_brigade [.inr (.inr (.inl 96))] h (qg_X9_brigade h) := by
  show RUN d_X9_brigade 0 [(0, .inr (.inr (.inl 96)))] [] h _
  have fr : FR [96, 97, 102] h h := FR.rf _ _
  have b1 : (0 : Int) ≤ (h.1 96 8).toInt ∧ (h.1 96 8).toInt ≤ 500 := hI.1 96 8
  have b2 : (0 : Int) ≤ (h.1 96 12).toInt ∧ (h.1 96 12).toInt ≤ 3 := hI.1 96 12
  refine R_aload_n (k := 0) rfl rfl rfl ?_
  refine R_aload_n (k := 0) rfl rfl rfl ?_
  refine R_getf_i (j := 5) rfl ft_9_136 sh_96 rfl ?_
  have b3 : (0 : Int) ≤ (h.1 96 5).toInt ∧ (h.1 96 5).toInt ≤ 500 := hI.1 96 5
  refine K_putf (j := 7) (lo := 0) (hi' := 500) rfl ft_9_139 sh_96 rfl hI (by decide) rfl (by omega) fr (by decide) (fun h4 g5 hI fr => ?_)
  have s6 : (h4.1 96 8).toInt = (h.1 96 8).toInt := by rw [g5, wI_at (by decide)]
  have s7 : (h4.1 96 10).toInt = (h.1 96 10).toInt := by rw [g5, wI_at (by decide)]
  have s8 : (h4.1 96 12).toInt = (h.1 96 12).toInt := by rw [g5, wI_at (by decide)]
  have s9 : (h4.1 96 5).toInt = (h.1 96 5).toInt := by rw [g5, wI_at (by decide)]
  have s10 : (h4.1 96 7).toInt = (h.1 96 5).toInt := by rw [g5, wI_is]
  refine R_aload_n (k := 0) rfl rfl rfl ?_
  refine R_iconst 0 rfl rfl ?_
  refine K_putf (j := 5) (lo := 0) (hi' := 500) rfl ft_9_136 sh_96 rfl hI (by decide) rfl (by decide) fr (by decide) (fun h11 g12 hI fr => ?_)
  have s13 : (h11.1 96 8).toInt = (h4.1 96 8).toInt := by rw [g12, wI_at (by decide)]
  have s14 : (h11.1 96 10).toInt = (h4.1 96 10).toInt := by rw [g12, wI_at (by decide)]
  have s15 : (h11.1 96 12).toInt = (h4.1 96 12).toInt := by rw [g12, wI_at (by decide)]
  have s16 : (h11.1 96 7).toInt = (h4.1 96 7).toInt := by rw [g12, wI_at (by decide)]
  have s17 : (h11.1 96 5).toInt = 0 := by rw [g12, wI_is]; rfl
  refine R_aload_n (k := 0) rfl rfl rfl ?_
  refine R_iconst 0 rfl rfl ?_
  refine K_putf (j := 8) (lo := 0) (hi' := 500) rfl ft_9_142 sh_96 rfl hI (by decide) rfl (by decide) fr (by decide) (fun h18 g19 hI fr => ?_)
  have s20 : (h18.1 96 10).toInt = (h11.1 96 10).toInt := by rw [g19, wI_at (by decide)]
  have s21 : (h18.1 96 12).toInt = (h11.1 96 12).toInt := by rw [g19, wI_at (by decide)]
  have s22 : (h18.1 96 7).toInt = (h11.1 96 7).toInt := by rw [g19, wI_at (by decide)]
  have s23 : (h18.1 96 5).toInt = (h11.1 96 5).toInt := by rw [g19, wI_at (by decide)]
  have s24 : (h18.1 96 8).toInt = 0 := by rw [g19, wI_is]; rfl
  refine R_aload_n (k := 0) rfl rfl rfl ?_
  refine R_iconst 0 rfl rfl ?_
  refine K_putf (j := 12) (lo := 0) (hi' := 3) rfl ft_9_173 sh_96 rfl hI (by decide) rfl (by decide) fr (by decide) (fun h25 g26 hI fr => ?_)
  have s27 : (h25.1 96 10).toInt = (h18.1 96 10).toInt := by rw [g26, wI_at (by decide)]
  have s28 : (h25.1 96 7).toInt = (h18.1 96 7).toInt := by rw [g26, wI_at (by decide)]
  have s29 : (h25.1 96 5).toInt = (h18.1 96 5).toInt := by rw [g26, wI_at (by decide)]
  have s30 : (h25.1 96 8).toInt = (h18.1 96 8).toInt := by rw [g26, wI_at (by decide)]
  have s31 : (h25.1 96 12).toInt = 0 := by rw [g26, wI_is]; rfl
  refine R_aload_n (k := 0) rfl rfl rfl ?_
  refine R_iconst (-1) rfl rfl ?_
  refine K_putf (j := 13) (lo := (-2147483648)) (hi' := 2147483647) rfl ft_9_27 sh_96 rfl hI (by decide) rfl (by decide) fr (by decide) (fun h32 g33 hI fr => ?_)
  have s34 : (h32.1 96 10).toInt = (h25.1 96 10).toInt := by rw [g33, wI_at (by decide)]
  have s35 : (h32.1 96 7).toInt = (h25.1 96 7).toInt := by rw [g33, wI_at (by decide)]
  have s36 : (h32.1 96 5).toInt = (h25.1 96 5).toInt := by rw [g33, wI_at (by decide)]
  have s37 : (h32.1 96 8).toInt = (h25.1 96 8).toInt := by rw [g33, wI_at (by decide)]
  have s38 : (h32.1 96 12).toInt = (h25.1 96 12).toInt := by rw [g33, wI_at (by decide)]
  have s39 : (h32.1 96 13).toInt = (-1) := by rw [g33, wI_is]; rfl
  refine R_iconst 0 rfl rfl ?_
  refine R_istore_n (k := 1) rfl [(1, .inl 0), (0, .inr (.inr (.inl 96)))] rfl rfl (by decide) ?_
  have lp41 : ∀ (n40 : Nat) (h42 : PH) (x44 : Int32), INV h42 → FR [96, 97, 102] h h42 → FR [96, 102] h32 h42 → 0 ≤ x44.toInt ∧ x44.toInt ≤ 68 → True → 0 ≤ (h42.1 96 7).toInt ∧ (h42.1 96 7).toInt ≤ 500 → 0 ≤ (h42.1 96 5).toInt ∧ (h42.1 96 5).toInt ≤ 0 → 0 ≤ (h42.1 96 8).toInt ∧ (h42.1 96 8).toInt ≤ 0 → 0 ≤ (h42.1 96 12).toInt ∧ (h42.1 96 12).toInt ≤ 0 → (-1) ≤ (h42.1 96 13).toInt ∧ (h42.1 96 13).toInt ≤ (-1) → (∀ j : Nat, (j : Int) < x44.toInt → (h42.1 102 j).toInt = 0) → (68 - x44.toInt).toNat < n40 → RUN d_X9_brigade 30 [(1, .inl x44), (0, .inr (.inr (.inl 96)))] [] h42 (qg_X9_brigade h) := by
    intro n40
    induction n40 with
    | zero => intro h42 x44 m46 m47 m48 m49 m50 m51 m52 m53 m54 m55 m56 hz; exact absurd hz (Nat.not_lt_zero _)
    | succ n40 ih45 =>
      intro h42 x44 hI fr fl43 m49 m50 m51 m52 m53 m54 m55 m56 hz
      refine R_iload_n (k := 1) rfl rfl rfl ?_
      refine R_bipush 68 rfl rfl ?_
      refine N_icmp_ge (a := x44.toInt) (b := 68) 49 rfl rfl rfl (by decide) (fun c57 => ?_) (fun c57 => ?_)
      · have b58 : (0 : Int) ≤ (h42.1 102 9).toInt ∧ (h42.1 102 9).toInt ≤ 30 := hI.1 102 9
        have b59 : (0 : Int) ≤ (h42.1 102 5).toInt ∧ (h42.1 102 5).toInt ≤ 6 := hI.1 102 5
        have b60 : (0 : Int) ≤ (h42.1 102 0).toInt ∧ (h42.1 102 0).toInt ≤ 60 := hI.1 102 0
        have zz61 := m56 9 (by omega)
        have zz62 := m56 10 (by omega)
        have zz63 := m56 5 (by omega)
        have zz64 := m56 0 (by omega)
        refine R_aload_n (k := 0) rfl rfl rfl ?_
        refine R_callV (v := .inr (.inr (.inl 96))) (As := []) (rest := []) rfl mt_9_i192 pp_X9_advance (by decide) rfl rfl rfl (Nat.le_of_ble_eq_true rfl) (Nat.le_of_ble_eq_true rfl) ((g_X9_advance h42 hI).mono (fun r65 h66 p67 => ?_))
        obtain ⟨hJ, fj, ⟨kp68, kp69, kp70, kp71, xq72, xq73, -⟩, rfl⟩ := p67
        have f74 := fj
        have fr := fr.trans fj (by decide)
        have hI := hJ
        have fl43 : FR [96, 102] h32 h66 := fl43.trans fj (by decide)
        have s75 : (h66.1 102 9).toInt = (h42.1 102 9).toInt := by rw [(f74 102 (by decide)).1]
        have s76 : (h66.1 102 10).toInt = (h42.1 102 10).toInt := by rw [(f74 102 (by decide)).1]
        have s77 : (h66.1 102 5).toInt = (h42.1 102 5).toInt := by rw [(f74 102 (by decide)).1]
        have s78 : (h66.1 102 0).toInt = (h42.1 102 0).toInt := by rw [(f74 102 (by decide)).1]
        have b79 : (0 : Int) ≤ (h66.1 96 8).toInt ∧ (h66.1 96 8).toInt ≤ 500 := hI.1 96 8
        show RUN d_X9_brigade 53 [(1, .inl x44), (0, .inr (.inr (.inl 96)))] [] h66 _
        have b80 : (0 : Int) ≤ (h66.1 102 6).toInt ∧ (h66.1 102 6).toInt ≤ 5 := hI.1 102 6
        have lp82 : ∀ (n81 : Nat) (h83 : PH), INV h83 → FR [96, 97, 102] h h83 → FR [96, 102] h66 h83 → (h83.1 102 9).toInt = (h66.1 102 9).toInt → 0 ≤ (h83.1 96 12).toInt ∧ (h83.1 96 12).toInt ≤ 3 → True → 0 ≤ (h83.1 102 5).toInt ∧ (h83.1 102 5).toInt ≤ 6 → 0 ≤ (h83.1 102 0).toInt ∧ (h83.1 102 0).toInt ≤ 60 → 0 ≤ (h83.1 96 8).toInt ∧ (h83.1 96 8).toInt ≤ 500 → True → 0 ≤ (h83.1 102 6).toInt ∧ (h83.1 102 6).toInt ≤ 5 → ((h83.1 102 9).toInt = 0) → ((h83.1 96 12).toInt = 0 → ((h83.1 102 10).toInt = 0 ∧ (h83.1 102 5).toInt = 0) ∨ 1 ≤ (h83.1 102 0).toInt) → mbr (h83.1 96 12).toInt (h83.1 96 10).toInt (h83.1 96 8).toInt < n81 → RUN d_X9_brigade 53 [(1, .inl x44), (0, .inr (.inr (.inl 96)))] [] h83 (qg_X9_brigade h) := by
          intro n81
          induction n81 with
          | zero => intro h83 m86 m87 m88 m89 m90 m91 m92 m93 m94 m95 m96 m97 m98 hz; exact absurd hz (Nat.not_lt_zero _)
          | succ n81 ih85 =>
            intro h83 hI fr fl84 m89 m90 m91 m92 m93 m94 m95 m96 m97 m98 hz
            have fl43 : FR [96, 102] h32 h83 := fl43.trans fl84 (by decide)
            refine R_aload_n (k := 0) rfl rfl rfl ?_
            refine R_callV (v := .inr (.inr (.inl 96))) (As := []) (rest := []) rfl mt_9_i176 pp_X9_good (by decide) rfl rfl rfl (Nat.le_of_ble_eq_true rfl) (Nat.le_of_ble_eq_true rfl) ((k_X9_good h83 hI).mono (fun r99 h100 p101 => ?_))
            obtain ⟨rfl, x102, rfl, q103 | q103⟩ := p101
            · show RUN d_X9_brigade 57 [(1, .inl x44), (0, .inr (.inr (.inl 96)))] [.inl x102] h83 _
              refine N_if_eq (a := x102.toInt) 74 rfl rfl rfl (fun c104 => ?_) (fun c104 => ?_)
              · refine R_aload_n (k := 0) rfl rfl rfl ?_
                refine R_callV (v := .inr (.inr (.inl 96))) (As := []) (rest := []) rfl mt_9_i176 pp_X9_good (by decide) rfl rfl rfl (Nat.le_of_ble_eq_true rfl) (Nat.le_of_ble_eq_true rfl) ((k_X9_good h83 hI).mono (fun r105 h106 p107 => ?_))
                obtain ⟨rfl, x108, rfl, q109 | q109⟩ := p107
                · show RUN d_X9_brigade 78 [(1, .inl x44), (0, .inr (.inr (.inl 96)))] [.inl x108] h83 _
                  refine N_if_ne (a := x108.toInt) 84 rfl rfl rfl (fun c110 => ?_) (fun c110 => ?_)
                  · exfalso; omega
                  · refine R_bipush (-4) rfl rfl ?_
                    exact R_iret rfl rfl rfl ⟨hI, fr, trivial, _, rfl, trivial⟩
                · exfalso; omega
              · exfalso; omega
            · show RUN d_X9_brigade 57 [(1, .inl x44), (0, .inr (.inr (.inl 96)))] [.inl x102] h83 _
              refine N_if_eq (a := x102.toInt) 74 rfl rfl rfl (fun c111 => ?_) (fun c111 => ?_)
              · exfalso; omega
              · refine R_aload_n (k := 0) rfl rfl rfl ?_
                refine R_getf_i (j := 10) rfl ft_9_152 sh_96 rfl ?_
                refine N_if_eq (a := (h83.1 96 10).toInt) 74 rfl rfl rfl (fun c112 => ?_) (fun c112 => ?_)
                · refine R_aload_n (k := 0) rfl rfl rfl ?_
                  refine R_callV (v := .inr (.inr (.inl 96))) (As := []) (rest := []) rfl mt_9_i176 pp_X9_good (by decide) rfl rfl rfl (Nat.le_of_ble_eq_true rfl) (Nat.le_of_ble_eq_true rfl) ((k_X9_good h83 hI).mono (fun r113 h114 p115 => ?_))
                  obtain ⟨rfl, x116, rfl, q117 | q117⟩ := p115
                  · exfalso; omega
                  · show RUN d_X9_brigade 78 [(1, .inl x44), (0, .inr (.inr (.inl 96)))] [.inl x116] h83 _
                    refine N_if_ne (a := x116.toInt) 84 rfl rfl rfl (fun c118 => ?_) (fun c118 => ?_)
                    · exact brig_copy hI fr (by omega) (by omega)
                    · exfalso; omega
                · refine R_aload_n (k := 0) rfl rfl rfl ?_
                  refine R_callV (v := .inr (.inr (.inl 96))) (As := []) (rest := []) rfl mt_9_i250 pp_X9_readLine (by decide) rfl rfl rfl (Nat.le_of_ble_eq_true rfl) (Nat.le_of_ble_eq_true rfl) ((g_X9_readLine h83 hI).mono (fun r119 h120 p121 => ?_))
                  obtain ⟨hJ, fj, ⟨kp122, xq123, xq124, xq125, xq126, xq127, -⟩, rfl⟩ := p121
                  have f128 := fj
                  have fr := fr.trans fj (by decide)
                  have hI := hJ
                  have fl84 : FR [96, 102] h66 h120 := fl84.trans fj (by decide)
                  have fl43 : FR [96, 102] h32 h120 := fl43.trans fj (by decide)
                  have b129 : (0 : Int) ≤ (h120.1 96 12).toInt ∧ (h120.1 96 12).toInt ≤ 3 := hI.1 96 12
                  have b130 : (0 : Int) ≤ (h120.1 96 8).toInt ∧ (h120.1 96 8).toInt ≤ 500 := hI.1 96 8
                  have b131 : (0 : Int) ≤ (h120.1 102 0).toInt ∧ (h120.1 102 0).toInt ≤ 60 := hI.1 102 0
                  have b132 : (0 : Int) ≤ (h120.1 102 5).toInt ∧ (h120.1 102 5).toInt ≤ 6 := hI.1 102 5
                  have b133 : (0 : Int) ≤ (h120.1 102 6).toInt ∧ (h120.1 102 6).toInt ≤ 5 := hI.1 102 6
                  show RUN d_X9_brigade 71 [(1, .inl x44), (0, .inr (.inr (.inl 96)))] [] h120 _
                  refine R_goto 53 rfl rfl ?_
                  exact RUN_weak (psub_cons rfl (psub_cons rfl (psub_nil _))) (ih85 h120 hI fr fl84 (by omega) (by omega) trivial (by omega) (by omega) (by omega) trivial (by omega) (by omega) (by omega) (mbr_lt hz (by omega) (by omega) (by omega) (fun c => by omega)))
        exact lp82 _ h66 hI fr (FR.rf _ _) rfl (by omega) trivial (by omega) (by omega) (by omega) trivial (by omega) (by omega) (by omega) (Nat.lt_succ_self _)
      · refine R_aload_n (k := 0) rfl rfl rfl ?_
        refine R_getf_r (j := 14) rfl ft_9_31 sh_96 rfl ?_
        refine R_iload_n (k := 1) rfl rfl rfl ?_
        refine R_iconst 0 rfl rfl ?_
        refine K_iastz (a := x44.toInt) rfl sh_102 rfl ⟨by omega, by omega⟩ hI (by decide) (by decide) fr (by decide) (fun h134 g135 hI fr => ?_)
        have fl43 : FR [96, 102] h32 h134 := by rw [g135]; exact FR_wI _ _ fl43 (by decide)
        have s136 : (h134.1 96 10).toInt = (h42.1 96 10).toInt := by rw [g135, wI_ne _ _ _ (by decide)]
        have s137 : (h134.1 96 7).toInt = (h42.1 96 7).toInt := by rw [g135, wI_ne _ _ _ (by decide)]
        have s138 : (h134.1 96 5).toInt = (h42.1 96 5).toInt := by rw [g135, wI_ne _ _ _ (by decide)]
        have s139 : (h134.1 96 8).toInt = (h42.1 96 8).toInt := by rw [g135, wI_ne _ _ _ (by decide)]
        have s140 : (h134.1 96 12).toInt = (h42.1 96 12).toInt := by rw [g135, wI_ne _ _ _ (by decide)]
        have s141 : (h134.1 96 13).toInt = (h42.1 96 13).toInt := by rw [g135, wI_ne _ _ _ (by decide)]
        refine N_iinc (a := x44.toInt) (c := 1) (fun w => [(1, .inl w), (0, .inr (.inr (.inl 96)))]) rfl rfl (fun _ => rfl) (by decide) rfl (by decide) (by omega) (fun x142 q143 => ?_)
        refine R_goto 30 rfl rfl ?_
        exact RUN_weak (psub_cons rfl (psub_cons rfl (psub_nil _))) (ih45 h134 x142 hI fr fl43 (by omega) trivial (by omega) (by omega) (by omega) (by omega) (by omega) (by rw [g135, wI_self]; exact z0_step (x := x44) (x' := x142) m56 (by decide) (by omega) (by omega)) (by omega))
  have k144 : (0 : Int32).toInt = 0 := by decide
  exact lp41 _ h32 (0 : Int32) hI fr (FR.rf _ _) (by decide) trivial (by omega) (by omega) (by omega) (by omega) (by omega) (fun j hj => absurd hj (by omega)) (Nat.lt_succ_self _)
