abbrev qg_X9_advance (h : PH)  : Option PV → PH → Prop := fun r h' => INV h' ∧ FR [96] h h' ∧ ((h'.1 96 7).toInt = (h.1 96 7).toInt ∧ (h'.1 96 5).toInt = (h.1 96 5).toInt ∧ (h'.1 96 12).toInt = (h.1 96 12).toInt ∧ (h'.1 96 13).toInt = (h.1 96 13).toInt ∧ ((h.1 96 8).toInt ≤ (h'.1 96 8).toInt) ∧ ((h'.1 96 10).toInt = 0 ∨ (h.1 96 8).toInt + 1 ≤ (h'.1 96 8).toInt) ∧ True) ∧ r = none
set_option maxHeartbeats 4000000 in
set_option maxRecDepth 100000 in
theorem g_X9_advance (h : PH) (hI : INV h)  : CALL d_X9_advance [.inr (.inr (.inl 96))] h (qg_X9_advance h) := by
  show RUN d_X9_advance 0 [(0, .inr (.inr (.inl 96)))] [] h _
  have fr : FR [96] h h := FR.rf _ _
  have b1 : (0 : Int) ≤ (h.1 96 7).toInt ∧ (h.1 96 7).toInt ≤ 500 := hI.1 96 7
  have b2 : (0 : Int) ≤ (h.1 96 5).toInt ∧ (h.1 96 5).toInt ≤ 500 := hI.1 96 5
  have b3 : (0 : Int) ≤ (h.1 96 8).toInt ∧ (h.1 96 8).toInt ≤ 500 := hI.1 96 8
  have b4 : (0 : Int) ≤ (h.1 96 12).toInt ∧ (h.1 96 12).toInt ≤ 3 := hI.1 96 12
  have lp6 : ∀ (n5 : Nat) (h7 : PH), INV h7 → FR [96] h h7 → FR [96] h h7 → (h7.1 96 7).toInt = (h.1 96 7).toInt → (h7.1 96 5).toInt = (h.1 96 5).toInt → (h7.1 96 12).toInt = (h.1 96 12).toInt → (h7.1 96 13).toInt = (h.1 96 13).toInt → 0 ≤ (h7.1 96 8).toInt ∧ (h7.1 96 8).toInt ≤ 500 → True → True → (seeF h7 = seeF h) → ((h.1 96 8).toInt ≤ (h7.1 96 8).toInt) → (500 - (h7.1 96 8).toInt).toNat < n5 → RUN d_X9_advance 0 [(0, .inr (.inr (.inl 96)))] [] h7 (qg_X9_advance h) := by
    intro n5
    induction n5 with
    | zero => intro h7 m10 m11 m12 m13 m14 m15 m16 m17 m18 m19 m20 m21 hz; exact absurd hz (Nat.not_lt_zero _)
    | succ n5 ih9 =>
      intro h7 hI fr fl8 m13 m14 m15 m16 m17 m18 m19 m20 m21 hz
      refine R_aload_n (k := 0) rfl rfl rfl ?_
      refine R_aload_n (k := 0) rfl rfl rfl ?_
      refine R_getf_i (j := 8) rfl ft_9_142 sh_96 rfl ?_
      refine R_callV (v := .inr (.inr (.inl 96))) (As := [.inl (h7.1 96 8)]) (rest := []) rfl mt_9_i145 pp_X9_see (by decide) rfl rfl rfl (Nat.le_of_ble_eq_true rfl) (Nat.le_of_ble_eq_true rfl) ((g_X9_see h7 hI (h7.1 96 8) (by omega)).mono (fun r22 h23 p24 => ?_))
      obtain ⟨rfl, x26, rfl, (q27 | q27), zq25, -⟩ := p24
      · show RUN d_X9_advance 8 [(0, .inr (.inr (.inl 96)))] [.inl x26] h7 _
        refine R_bipush 32 rfl rfl ?_
        refine N_icmp_eq (a := x26.toInt) (b := 32) 26 rfl rfl rfl (by decide) (fun c28 => ?_) (fun c28 => ?_)
        · exfalso; omega
        · refine R_aload_n (k := 0) rfl rfl rfl ?_
          refine R_aload_n (k := 0) rfl rfl rfl ?_
          refine R_getf_i (j := 8) rfl ft_9_142 sh_96 rfl ?_
          refine R_callV (v := .inr (.inr (.inl 96))) (As := [.inl (h7.1 96 8)]) (rest := []) rfl mt_9_i145 pp_X9_see (by decide) rfl rfl rfl (Nat.le_of_ble_eq_true rfl) (Nat.le_of_ble_eq_true rfl) ((g_X9_see h7 hI (h7.1 96 8) (by omega)).mono (fun r29 h30 p31 => ?_))
          obtain ⟨rfl, x33, rfl, (q34 | q34), zq32, -⟩ := p31
          · show RUN d_X9_advance 21 [(0, .inr (.inr (.inl 96)))] [.inl x33] h7 _
            refine R_bipush 10 rfl rfl ?_
            refine N_icmp_ne (a := x33.toInt) (b := 10) 39 rfl rfl rfl (by decide) (fun c35 => ?_) (fun c35 => ?_)
            · refine R_aload_n (k := 0) rfl rfl rfl ?_
              refine R_aload_n (k := 0) rfl rfl rfl ?_
              refine R_getf_i (j := 8) rfl ft_9_142 sh_96 rfl ?_
              refine K_putf (j := 9) (lo := 0) (hi' := 500) rfl ft_9_149 sh_96 rfl hI (by decide) rfl (by omega) fr (by decide) (fun h36 g37 hI fr => ?_)
              have fl8 : FR [96] h h36 := by rw [g37]; exact FR_wI _ _ fl8 (by decide)
              have s38 : (h36.1 96 7).toInt = (h7.1 96 7).toInt := by rw [g37, wI_at (by decide)]
              have s39 : (h36.1 96 5).toInt = (h7.1 96 5).toInt := by rw [g37, wI_at (by decide)]
              have s40 : (h36.1 96 8).toInt = (h7.1 96 8).toInt := by rw [g37, wI_at (by decide)]
              have s41 : (h36.1 96 12).toInt = (h7.1 96 12).toInt := by rw [g37, wI_at (by decide)]
              have s42 : (h36.1 96 13).toInt = (h7.1 96 13).toInt := by rw [g37, wI_at (by decide)]
              have s43 : (h36.1 96 10).toInt = (h7.1 96 10).toInt := by rw [g37, wI_at (by decide)]
              have s44 : (h36.1 96 11).toInt = (h7.1 96 11).toInt := by rw [g37, wI_at (by decide)]
              have s45 : (h36.1 96 9).toInt = (h7.1 96 8).toInt := by rw [g37, wI_is]
              refine R_aload_n (k := 0) rfl rfl rfl ?_
              refine R_aload_n (k := 0) rfl rfl rfl ?_
              refine R_getf_i (j := 8) rfl ft_9_142 sh_96 rfl ?_
              refine R_callV (v := .inr (.inr (.inl 96))) (As := [.inl (h36.1 96 8)]) (rest := []) rfl mt_9_i145 pp_X9_see (by decide) rfl rfl rfl (Nat.le_of_ble_eq_true rfl) (Nat.le_of_ble_eq_true rfl) ((g_X9_see h36 hI (h36.1 96 8) (by omega)).mono (fun r46 h47 p48 => ?_))
              obtain ⟨rfl, x50, rfl, (q51 | q51), zq49, -⟩ := p48
              · show RUN d_X9_advance 55 [(0, .inr (.inr (.inl 96)))] [.inl x50] h36 _
                refine R_istore_n (k := 1) rfl [(1, .inl x50), (0, .inr (.inr (.inl 96)))] rfl rfl (by decide) ?_
                have sS52 : seeF h36 = seeF h := by rw [g37, seeF_w (by decide)]; exact m20
                have sz53 : x50 = seeF h (h36.1 96 8) := by rw [← sS52]; exact zq49
                refine R_iload_n (k := 1) rfl rfl rfl ?_
                refine R_iconst (-1) rfl rfl ?_
                refine N_icmp_ne (a := x50.toInt) (b := (-1)) 69 rfl rfl rfl (by decide) (fun c54 => ?_) (fun c54 => ?_)
                · exfalso; omega
                · refine R_aload_n (k := 0) rfl rfl rfl ?_
                  refine R_iconst 0 rfl rfl ?_
                  refine K_putf (j := 10) (lo := (-2147483648)) (hi' := 2147483647) rfl ft_9_152 sh_96 rfl hI (by decide) rfl (by decide) fr (by decide) (fun h55 g56 hI fr => ?_)
                  have fl8 : FR [96] h h55 := by rw [g56]; exact FR_wI _ _ fl8 (by decide)
                  have s57 : (h55.1 96 7).toInt = (h36.1 96 7).toInt := by rw [g56, wI_at (by decide)]
                  have s58 : (h55.1 96 5).toInt = (h36.1 96 5).toInt := by rw [g56, wI_at (by decide)]
                  have s59 : (h55.1 96 8).toInt = (h36.1 96 8).toInt := by rw [g56, wI_at (by decide)]
                  have s60 : (h55.1 96 12).toInt = (h36.1 96 12).toInt := by rw [g56, wI_at (by decide)]
                  have s61 : (h55.1 96 13).toInt = (h36.1 96 13).toInt := by rw [g56, wI_at (by decide)]
                  have s62 : (h55.1 96 11).toInt = (h36.1 96 11).toInt := by rw [g56, wI_at (by decide)]
                  have s63 : (h55.1 96 9).toInt = (h36.1 96 9).toInt := by rw [g56, wI_at (by decide)]
                  have s64 : (h55.1 96 10).toInt = 0 := by rw [g56, wI_is]; rfl
                  refine R_goto 239 rfl rfl ?_
                  exact R_vret rfl rfl ⟨hI, fr, ⟨by omega, by omega, by omega, by omega, by omega, by omega, trivial⟩, rfl⟩
              · show RUN d_X9_advance 55 [(0, .inr (.inr (.inl 96)))] [.inl x50] h36 _
                refine R_istore_n (k := 1) rfl [(1, .inl x50), (0, .inr (.inr (.inl 96)))] rfl rfl (by decide) ?_
                have sS65 : seeF h36 = seeF h := by rw [g37, seeF_w (by decide)]; exact m20
                have sz66 : x50 = seeF h (h36.1 96 8) := by rw [← sS65]; exact zq49
                refine R_iload_n (k := 1) rfl rfl rfl ?_
                refine R_iconst (-1) rfl rfl ?_
                refine N_icmp_ne (a := x50.toInt) (b := (-1)) 69 rfl rfl rfl (by decide) (fun c67 => ?_) (fun c67 => ?_)
                · refine R_iload_n (k := 1) rfl rfl rfl ?_
                  refine N_i2l rfl (fun w68 q69 => ?_)
                  refine R_ldc2 (x := 97) rfl kt_9_155 ?_
                  refine R_ldc2 (x := 122) rfl kt_9_157 ?_
                  have k70 : (97 : Int64).toInt = 97 := by decide
                  have k71 : (122 : Int64).toInt = 122 := by decide
                  refine R_callS (As := [.inr (.inl w68), .inr (.inl 97), .inr (.inl 122)]) (rest := []) rfl mt_9_i125 (by decide) pp_X9_in (by decide) rfl rfl (Nat.le_of_ble_eq_true rfl) (Nat.le_of_ble_eq_true rfl) ((k_X9_in h36 hI w68 (97 : Int64) (122 : Int64)).mono (fun r72 h73 p74 => ?_))
                  obtain ⟨rfl, x75, rfl, q76 | q76 | q76⟩ := p74
                  · show RUN d_X9_advance 80 [(1, .inl x50), (0, .inr (.inr (.inl 96)))] [.inl x75] h36 _
                    refine N_if_eq (a := x75.toInt) 125 rfl rfl rfl (fun c77 => ?_) (fun c77 => ?_)
                    · refine R_iload_n (k := 1) rfl rfl rfl ?_
                      refine N_i2l rfl (fun w78 q79 => ?_)
                      refine R_ldc2 (x := 48) rfl kt_9_159 ?_
                      refine R_ldc2 (x := 57) rfl kt_9_161 ?_
                      have k80 : (48 : Int64).toInt = 48 := by decide
                      have k81 : (57 : Int64).toInt = 57 := by decide
                      refine R_callS (As := [.inr (.inl w78), .inr (.inl 48), .inr (.inl 57)]) (rest := []) rfl mt_9_i125 (by decide) pp_X9_in (by decide) rfl rfl (Nat.le_of_ble_eq_true rfl) (Nat.le_of_ble_eq_true rfl) ((k_X9_in h36 hI w78 (48 : Int64) (57 : Int64)).mono (fun r82 h83 p84 => ?_))
                      obtain ⟨rfl, x85, rfl, q86 | q86 | q86⟩ := p84
                      · show RUN d_X9_advance 136 [(1, .inl x50), (0, .inr (.inr (.inl 96)))] [.inl x85] h36 _
                        refine N_if_eq (a := x85.toInt) 214 rfl rfl rfl (fun c87 => ?_) (fun c87 => ?_)
                        · refine R_aload_n (k := 0) rfl rfl rfl ?_
                          refine R_iload_n (k := 1) rfl rfl rfl ?_
                          refine R_bipush 59 rfl rfl ?_
                          refine N_icmp_ne (a := x50.toInt) (b := 59) 225 rfl rfl rfl (by decide) (fun c88 => ?_) (fun c88 => ?_)
                          · refine R_iconst 4 rfl rfl ?_
                            refine K_putf (j := 10) (lo := (-2147483648)) (hi' := 2147483647) rfl ft_9_152 sh_96 rfl hI (by decide) rfl (by decide) fr (by decide) (fun h89 g90 hI fr => ?_)
                            have fl8 : FR [96] h h89 := by rw [g90]; exact FR_wI _ _ fl8 (by decide)
                            have s91 : (h89.1 96 7).toInt = (h36.1 96 7).toInt := by rw [g90, wI_at (by decide)]
                            have s92 : (h89.1 96 5).toInt = (h36.1 96 5).toInt := by rw [g90, wI_at (by decide)]
                            have s93 : (h89.1 96 8).toInt = (h36.1 96 8).toInt := by rw [g90, wI_at (by decide)]
                            have s94 : (h89.1 96 12).toInt = (h36.1 96 12).toInt := by rw [g90, wI_at (by decide)]
                            have s95 : (h89.1 96 13).toInt = (h36.1 96 13).toInt := by rw [g90, wI_at (by decide)]
                            have s96 : (h89.1 96 11).toInt = (h36.1 96 11).toInt := by rw [g90, wI_at (by decide)]
                            have s97 : (h89.1 96 9).toInt = (h36.1 96 9).toInt := by rw [g90, wI_at (by decide)]
                            have s98 : (h89.1 96 10).toInt = 4 := by rw [g90, wI_is]; rfl
                            refine R_aload_n (k := 0) rfl rfl rfl ?_
                            refine R_dup_r rfl ?_
                            refine R_getf_i (j := 8) rfl ft_9_142 sh_96 rfl ?_
                            refine R_iconst 1 rfl rfl ?_
                            refine N_iadd (a := (h89.1 96 8).toInt) (b := 1) rfl rfl (by decide) (by omega) (fun x99 q100 => ?_)
                            refine K_putf (j := 8) (lo := 0) (hi' := 500) rfl ft_9_142 sh_96 rfl hI (by decide) rfl (by omega) fr (by decide) (fun h101 g102 hI fr => ?_)
                            have fl8 : FR [96] h h101 := by rw [g102]; exact FR_wI _ _ fl8 (by decide)
                            have s103 : (h101.1 96 7).toInt = (h89.1 96 7).toInt := by rw [g102, wI_at (by decide)]
                            have s104 : (h101.1 96 5).toInt = (h89.1 96 5).toInt := by rw [g102, wI_at (by decide)]
                            have s105 : (h101.1 96 12).toInt = (h89.1 96 12).toInt := by rw [g102, wI_at (by decide)]
                            have s106 : (h101.1 96 13).toInt = (h89.1 96 13).toInt := by rw [g102, wI_at (by decide)]
                            have s107 : (h101.1 96 11).toInt = (h89.1 96 11).toInt := by rw [g102, wI_at (by decide)]
                            have s108 : (h101.1 96 9).toInt = (h89.1 96 9).toInt := by rw [g102, wI_at (by decide)]
                            have s109 : (h101.1 96 10).toInt = (h89.1 96 10).toInt := by rw [g102, wI_at (by decide)]
                            have s110 : (h101.1 96 8).toInt = x99.toInt := by rw [g102, wI_is]
                            exact R_vret rfl rfl ⟨hI, fr, ⟨by omega, by omega, by omega, by omega, by omega, by omega, trivial⟩, rfl⟩
                          · exfalso; omega
                        · exfalso; omega
                      · show RUN d_X9_advance 136 [(1, .inl x50), (0, .inr (.inr (.inl 96)))] [.inl x85] h36 _
                        refine N_if_eq (a := x85.toInt) 214 rfl rfl rfl (fun c111 => ?_) (fun c111 => ?_)
                        · refine R_aload_n (k := 0) rfl rfl rfl ?_
                          refine R_iload_n (k := 1) rfl rfl rfl ?_
                          refine R_bipush 59 rfl rfl ?_
                          refine N_icmp_ne (a := x50.toInt) (b := 59) 225 rfl rfl rfl (by decide) (fun c112 => ?_) (fun c112 => ?_)
                          · refine R_iconst 4 rfl rfl ?_
                            refine K_putf (j := 10) (lo := (-2147483648)) (hi' := 2147483647) rfl ft_9_152 sh_96 rfl hI (by decide) rfl (by decide) fr (by decide) (fun h113 g114 hI fr => ?_)
                            have fl8 : FR [96] h h113 := by rw [g114]; exact FR_wI _ _ fl8 (by decide)
                            have s115 : (h113.1 96 7).toInt = (h36.1 96 7).toInt := by rw [g114, wI_at (by decide)]
                            have s116 : (h113.1 96 5).toInt = (h36.1 96 5).toInt := by rw [g114, wI_at (by decide)]
                            have s117 : (h113.1 96 8).toInt = (h36.1 96 8).toInt := by rw [g114, wI_at (by decide)]
                            have s118 : (h113.1 96 12).toInt = (h36.1 96 12).toInt := by rw [g114, wI_at (by decide)]
                            have s119 : (h113.1 96 13).toInt = (h36.1 96 13).toInt := by rw [g114, wI_at (by decide)]
                            have s120 : (h113.1 96 11).toInt = (h36.1 96 11).toInt := by rw [g114, wI_at (by decide)]
                            have s121 : (h113.1 96 9).toInt = (h36.1 96 9).toInt := by rw [g114, wI_at (by decide)]
                            have s122 : (h113.1 96 10).toInt = 4 := by rw [g114, wI_is]; rfl
                            refine R_aload_n (k := 0) rfl rfl rfl ?_
                            refine R_dup_r rfl ?_
                            refine R_getf_i (j := 8) rfl ft_9_142 sh_96 rfl ?_
                            refine R_iconst 1 rfl rfl ?_
                            refine N_iadd (a := (h113.1 96 8).toInt) (b := 1) rfl rfl (by decide) (by omega) (fun x123 q124 => ?_)
                            refine K_putf (j := 8) (lo := 0) (hi' := 500) rfl ft_9_142 sh_96 rfl hI (by decide) rfl (by omega) fr (by decide) (fun h125 g126 hI fr => ?_)
                            have fl8 : FR [96] h h125 := by rw [g126]; exact FR_wI _ _ fl8 (by decide)
                            have s127 : (h125.1 96 7).toInt = (h113.1 96 7).toInt := by rw [g126, wI_at (by decide)]
                            have s128 : (h125.1 96 5).toInt = (h113.1 96 5).toInt := by rw [g126, wI_at (by decide)]
                            have s129 : (h125.1 96 12).toInt = (h113.1 96 12).toInt := by rw [g126, wI_at (by decide)]
                            have s130 : (h125.1 96 13).toInt = (h113.1 96 13).toInt := by rw [g126, wI_at (by decide)]
                            have s131 : (h125.1 96 11).toInt = (h113.1 96 11).toInt := by rw [g126, wI_at (by decide)]
                            have s132 : (h125.1 96 9).toInt = (h113.1 96 9).toInt := by rw [g126, wI_at (by decide)]
                            have s133 : (h125.1 96 10).toInt = (h113.1 96 10).toInt := by rw [g126, wI_at (by decide)]
                            have s134 : (h125.1 96 8).toInt = x123.toInt := by rw [g126, wI_is]
                            exact R_vret rfl rfl ⟨hI, fr, ⟨by omega, by omega, by omega, by omega, by omega, by omega, trivial⟩, rfl⟩
                          · refine R_iconst 3 rfl rfl ?_
                            refine R_goto 226 rfl rfl ?_
                            refine K_putf (j := 10) (lo := (-2147483648)) (hi' := 2147483647) rfl ft_9_152 sh_96 rfl hI (by decide) rfl (by decide) fr (by decide) (fun h135 g136 hI fr => ?_)
                            have fl8 : FR [96] h h135 := by rw [g136]; exact FR_wI _ _ fl8 (by decide)
                            have s137 : (h135.1 96 7).toInt = (h36.1 96 7).toInt := by rw [g136, wI_at (by decide)]
                            have s138 : (h135.1 96 5).toInt = (h36.1 96 5).toInt := by rw [g136, wI_at (by decide)]
                            have s139 : (h135.1 96 8).toInt = (h36.1 96 8).toInt := by rw [g136, wI_at (by decide)]
                            have s140 : (h135.1 96 12).toInt = (h36.1 96 12).toInt := by rw [g136, wI_at (by decide)]
                            have s141 : (h135.1 96 13).toInt = (h36.1 96 13).toInt := by rw [g136, wI_at (by decide)]
                            have s142 : (h135.1 96 11).toInt = (h36.1 96 11).toInt := by rw [g136, wI_at (by decide)]
                            have s143 : (h135.1 96 9).toInt = (h36.1 96 9).toInt := by rw [g136, wI_at (by decide)]
                            have s144 : (h135.1 96 10).toInt = 3 := by rw [g136, wI_is]; rfl
                            refine R_aload_n (k := 0) rfl rfl rfl ?_
                            refine R_dup_r rfl ?_
                            refine R_getf_i (j := 8) rfl ft_9_142 sh_96 rfl ?_
                            refine R_iconst 1 rfl rfl ?_
                            refine N_iadd (a := (h135.1 96 8).toInt) (b := 1) rfl rfl (by decide) (by omega) (fun x145 q146 => ?_)
                            refine K_putf (j := 8) (lo := 0) (hi' := 500) rfl ft_9_142 sh_96 rfl hI (by decide) rfl (by omega) fr (by decide) (fun h147 g148 hI fr => ?_)
                            have fl8 : FR [96] h h147 := by rw [g148]; exact FR_wI _ _ fl8 (by decide)
                            have s149 : (h147.1 96 7).toInt = (h135.1 96 7).toInt := by rw [g148, wI_at (by decide)]
                            have s150 : (h147.1 96 5).toInt = (h135.1 96 5).toInt := by rw [g148, wI_at (by decide)]
                            have s151 : (h147.1 96 12).toInt = (h135.1 96 12).toInt := by rw [g148, wI_at (by decide)]
                            have s152 : (h147.1 96 13).toInt = (h135.1 96 13).toInt := by rw [g148, wI_at (by decide)]
                            have s153 : (h147.1 96 11).toInt = (h135.1 96 11).toInt := by rw [g148, wI_at (by decide)]
                            have s154 : (h147.1 96 9).toInt = (h135.1 96 9).toInt := by rw [g148, wI_at (by decide)]
                            have s155 : (h147.1 96 10).toInt = (h135.1 96 10).toInt := by rw [g148, wI_at (by decide)]
                            have s156 : (h147.1 96 8).toInt = x145.toInt := by rw [g148, wI_is]
                            exact R_vret rfl rfl ⟨hI, fr, ⟨by omega, by omega, by omega, by omega, by omega, by omega, trivial⟩, rfl⟩
                        · exfalso; omega
                      · show RUN d_X9_advance 136 [(1, .inl x50), (0, .inr (.inr (.inl 96)))] [.inl x85] h36 _
                        refine N_if_eq (a := x85.toInt) 214 rfl rfl rfl (fun c157 => ?_) (fun c157 => ?_)
                        · exfalso; omega
                        · refine R_aload_n (k := 0) rfl rfl rfl ?_
                          refine R_iconst 0 rfl rfl ?_
                          refine K_putf (j := 11) (lo := (-2147483648)) (hi' := 2147483647) rfl ft_9_163 sh_96 rfl hI (by decide) rfl (by decide) fr (by decide) (fun h158 g159 hI fr => ?_)
                          have fl8 : FR [96] h h158 := by rw [g159]; exact FR_wI _ _ fl8 (by decide)
                          have s160 : (h158.1 96 7).toInt = (h36.1 96 7).toInt := by rw [g159, wI_at (by decide)]
                          have s161 : (h158.1 96 5).toInt = (h36.1 96 5).toInt := by rw [g159, wI_at (by decide)]
                          have s162 : (h158.1 96 8).toInt = (h36.1 96 8).toInt := by rw [g159, wI_at (by decide)]
                          have s163 : (h158.1 96 12).toInt = (h36.1 96 12).toInt := by rw [g159, wI_at (by decide)]
                          have s164 : (h158.1 96 13).toInt = (h36.1 96 13).toInt := by rw [g159, wI_at (by decide)]
                          have s165 : (h158.1 96 10).toInt = (h36.1 96 10).toInt := by rw [g159, wI_at (by decide)]
                          have s166 : (h158.1 96 9).toInt = (h36.1 96 9).toInt := by rw [g159, wI_at (by decide)]
                          have s167 : (h158.1 96 11).toInt = 0 := by rw [g159, wI_is]; rfl
                          have lp169 : ∀ (n168 : Nat) (h170 : PH), INV h170 → FR [96] h h170 → FR [96] h158 h170 → (h170.1 96 7).toInt = (h158.1 96 7).toInt → (h170.1 96 5).toInt = (h158.1 96 5).toInt → (h170.1 96 12).toInt = (h158.1 96 12).toInt → (h170.1 96 13).toInt = (h158.1 96 13).toInt → (h170.1 96 9).toInt = (h158.1 96 9).toInt → 2 ≤ (h170.1 96 8).toInt ∧ (h170.1 96 8).toInt ≤ 498 → True → (h170.1 96 11).toInt ≤ 99999 → (h170.1 96 8).toInt ≤ x50.toInt + 448 → (h170.1 96 8).toInt ≤ (h158.1 96 7).toInt + (-2) → (h158.1 96 7).toInt ≤ (h170.1 96 8).toInt + 0 → (h170.1 96 8).toInt ≤ (h158.1 96 5).toInt + 496 → (h170.1 96 8).toInt ≤ (h158.1 96 12).toInt + 496 → (h170.1 96 8).toInt ≤ (h158.1 96 9).toInt + (-1) → (h170.1 96 8).toInt ≤ (h158.1 96 9).toInt + 0 → (h158.1 96 9).toInt ≤ (h170.1 96 8).toInt + (-1) → (h158.1 96 9).toInt ≤ (h170.1 96 8).toInt + 0 → (seeF h170 = seeF h) → ((h36.1 96 8).toInt + 1 ≤ (h170.1 96 8).toInt ∨ h170.1 96 8 = h36.1 96 8) → ((h36.1 96 8).toInt ≤ (h170.1 96 8).toInt) → (498 - (h170.1 96 8).toInt).toNat < n168 → RUN d_X9_advance 144 [(1, .inl x50), (0, .inr (.inr (.inl 96)))] [] h170 (qg_X9_advance h) := by
                            intro n168
                            induction n168 with
                            | zero => intro h170 m173 m174 m175 m176 m177 m178 m179 m180 m181 m182 m183 m184 m185 m186 m187 m188 m189 m190 m191 m192 m193 m194 m195 hz; exact absurd hz (Nat.not_lt_zero _)
                            | succ n168 ih172 =>
                              intro h170 hI fr fl171 m176 m177 m178 m179 m180 m181 m182 m183 m184 m185 m186 m187 m188 m189 m190 m191 m192 m193 m194 m195 hz
                              have fl8 : FR [96] h h170 := fl8.trans fl171 (by decide)
                              refine R_aload_n (k := 0) rfl rfl rfl ?_
                              refine R_aload_n (k := 0) rfl rfl rfl ?_
                              refine R_getf_i (j := 8) rfl ft_9_142 sh_96 rfl ?_
                              refine R_callV (v := .inr (.inr (.inl 96))) (As := [.inl (h170.1 96 8)]) (rest := []) rfl mt_9_i145 pp_X9_see (by decide) rfl rfl rfl (Nat.le_of_ble_eq_true rfl) (Nat.le_of_ble_eq_true rfl) ((g_X9_see h170 hI (h170.1 96 8) (by omega)).mono (fun r196 h197 p198 => ?_))
                              obtain ⟨rfl, x200, rfl, (q201 | q201), zq199, -⟩ := p198
                              · show RUN d_X9_advance 152 [(1, .inl x50), (0, .inr (.inr (.inl 96)))] [.inl x200] h170 _
                                have sy202 : (h36.1 96 8).toInt + 1 ≤ (h170.1 96 8).toInt ∨ x200.toInt = x50.toInt := Or.elim m194 Or.inl (fun c => Or.inr (by rw [zq199, m193, c, ← sz66]))
                                refine N_i2l rfl (fun w203 q204 => ?_)
                                refine R_ldc2 (x := 48) rfl kt_9_159 ?_
                                refine R_ldc2 (x := 57) rfl kt_9_161 ?_
                                have k205 : (48 : Int64).toInt = 48 := by decide
                                have k206 : (57 : Int64).toInt = 57 := by decide
                                refine R_callS (As := [.inr (.inl w203), .inr (.inl 48), .inr (.inl 57)]) (rest := []) rfl mt_9_i125 (by decide) pp_X9_in (by decide) rfl rfl (Nat.le_of_ble_eq_true rfl) (Nat.le_of_ble_eq_true rfl) ((k_X9_in h170 hI w203 (48 : Int64) (57 : Int64)).mono (fun r207 h208 p209 => ?_))
                                obtain ⟨rfl, x210, rfl, q211 | q211 | q211⟩ := p209
                                · show RUN d_X9_advance 162 [(1, .inl x50), (0, .inr (.inr (.inl 96)))] [.inl x210] h170 _
                                  refine N_if_eq (a := x210.toInt) 206 rfl rfl rfl (fun c212 => ?_) (fun c212 => ?_)
                                  · refine R_aload_n (k := 0) rfl rfl rfl ?_
                                    refine R_iconst 2 rfl rfl ?_
                                    refine K_putf (j := 10) (lo := (-2147483648)) (hi' := 2147483647) rfl ft_9_152 sh_96 rfl hI (by decide) rfl (by decide) fr (by decide) (fun h213 g214 hI fr => ?_)
                                    have fl171 : FR [96] h158 h213 := by rw [g214]; exact FR_wI _ _ fl171 (by decide)
                                    have fl8 : FR [96] h h213 := by rw [g214]; exact FR_wI _ _ fl8 (by decide)
                                    have s215 : (h213.1 96 7).toInt = (h170.1 96 7).toInt := by rw [g214, wI_at (by decide)]
                                    have s216 : (h213.1 96 5).toInt = (h170.1 96 5).toInt := by rw [g214, wI_at (by decide)]
                                    have s217 : (h213.1 96 8).toInt = (h170.1 96 8).toInt := by rw [g214, wI_at (by decide)]
                                    have s218 : (h213.1 96 12).toInt = (h170.1 96 12).toInt := by rw [g214, wI_at (by decide)]
                                    have s219 : (h213.1 96 13).toInt = (h170.1 96 13).toInt := by rw [g214, wI_at (by decide)]
                                    have s220 : (h213.1 96 9).toInt = (h170.1 96 9).toInt := by rw [g214, wI_at (by decide)]
                                    have s221 : (h213.1 96 11).toInt = (h170.1 96 11).toInt := by rw [g214, wI_at (by decide)]
                                    have s222 : (h213.1 96 10).toInt = 2 := by rw [g214, wI_is]; rfl
                                    refine R_goto 239 rfl rfl ?_
                                    exact R_vret rfl rfl ⟨hI, fr, ⟨by omega, by omega, by omega, by omega, by omega, by omega, trivial⟩, rfl⟩
                                  · exfalso; omega
                                · exfalso; omega
                                · exfalso; omega
                              · show RUN d_X9_advance 152 [(1, .inl x50), (0, .inr (.inr (.inl 96)))] [.inl x200] h170 _
                                have sy223 : (h36.1 96 8).toInt + 1 ≤ (h170.1 96 8).toInt ∨ x200.toInt = x50.toInt := Or.elim m194 Or.inl (fun c => Or.inr (by rw [zq199, m193, c, ← sz66]))
                                refine N_i2l rfl (fun w224 q225 => ?_)
                                refine R_ldc2 (x := 48) rfl kt_9_159 ?_
                                refine R_ldc2 (x := 57) rfl kt_9_161 ?_
                                have k226 : (48 : Int64).toInt = 48 := by decide
                                have k227 : (57 : Int64).toInt = 57 := by decide
                                refine R_callS (As := [.inr (.inl w224), .inr (.inl 48), .inr (.inl 57)]) (rest := []) rfl mt_9_i125 (by decide) pp_X9_in (by decide) rfl rfl (Nat.le_of_ble_eq_true rfl) (Nat.le_of_ble_eq_true rfl) ((k_X9_in h170 hI w224 (48 : Int64) (57 : Int64)).mono (fun r228 h229 p230 => ?_))
                                obtain ⟨rfl, x231, rfl, q232 | q232 | q232⟩ := p230
                                · show RUN d_X9_advance 162 [(1, .inl x50), (0, .inr (.inr (.inl 96)))] [.inl x231] h170 _
                                  refine N_if_eq (a := x231.toInt) 206 rfl rfl rfl (fun c233 => ?_) (fun c233 => ?_)
                                  · refine R_aload_n (k := 0) rfl rfl rfl ?_
                                    refine R_iconst 2 rfl rfl ?_
                                    refine K_putf (j := 10) (lo := (-2147483648)) (hi' := 2147483647) rfl ft_9_152 sh_96 rfl hI (by decide) rfl (by decide) fr (by decide) (fun h234 g235 hI fr => ?_)
                                    have fl171 : FR [96] h158 h234 := by rw [g235]; exact FR_wI _ _ fl171 (by decide)
                                    have fl8 : FR [96] h h234 := by rw [g235]; exact FR_wI _ _ fl8 (by decide)
                                    have s236 : (h234.1 96 7).toInt = (h170.1 96 7).toInt := by rw [g235, wI_at (by decide)]
                                    have s237 : (h234.1 96 5).toInt = (h170.1 96 5).toInt := by rw [g235, wI_at (by decide)]
                                    have s238 : (h234.1 96 8).toInt = (h170.1 96 8).toInt := by rw [g235, wI_at (by decide)]
                                    have s239 : (h234.1 96 12).toInt = (h170.1 96 12).toInt := by rw [g235, wI_at (by decide)]
                                    have s240 : (h234.1 96 13).toInt = (h170.1 96 13).toInt := by rw [g235, wI_at (by decide)]
                                    have s241 : (h234.1 96 9).toInt = (h170.1 96 9).toInt := by rw [g235, wI_at (by decide)]
                                    have s242 : (h234.1 96 11).toInt = (h170.1 96 11).toInt := by rw [g235, wI_at (by decide)]
                                    have s243 : (h234.1 96 10).toInt = 2 := by rw [g235, wI_is]; rfl
                                    refine R_goto 239 rfl rfl ?_
                                    exact R_vret rfl rfl ⟨hI, fr, ⟨by omega, by omega, by omega, by omega, by omega, by omega, trivial⟩, rfl⟩
                                  · exfalso; omega
                                · show RUN d_X9_advance 162 [(1, .inl x50), (0, .inr (.inr (.inl 96)))] [.inl x231] h170 _
                                  refine N_if_eq (a := x231.toInt) 206 rfl rfl rfl (fun c244 => ?_) (fun c244 => ?_)
                                  · refine R_aload_n (k := 0) rfl rfl rfl ?_
                                    refine R_iconst 2 rfl rfl ?_
                                    refine K_putf (j := 10) (lo := (-2147483648)) (hi' := 2147483647) rfl ft_9_152 sh_96 rfl hI (by decide) rfl (by decide) fr (by decide) (fun h245 g246 hI fr => ?_)
                                    have fl171 : FR [96] h158 h245 := by rw [g246]; exact FR_wI _ _ fl171 (by decide)
                                    have fl8 : FR [96] h h245 := by rw [g246]; exact FR_wI _ _ fl8 (by decide)
                                    have s247 : (h245.1 96 7).toInt = (h170.1 96 7).toInt := by rw [g246, wI_at (by decide)]
                                    have s248 : (h245.1 96 5).toInt = (h170.1 96 5).toInt := by rw [g246, wI_at (by decide)]
                                    have s249 : (h245.1 96 8).toInt = (h170.1 96 8).toInt := by rw [g246, wI_at (by decide)]
                                    have s250 : (h245.1 96 12).toInt = (h170.1 96 12).toInt := by rw [g246, wI_at (by decide)]
                                    have s251 : (h245.1 96 13).toInt = (h170.1 96 13).toInt := by rw [g246, wI_at (by decide)]
                                    have s252 : (h245.1 96 9).toInt = (h170.1 96 9).toInt := by rw [g246, wI_at (by decide)]
                                    have s253 : (h245.1 96 11).toInt = (h170.1 96 11).toInt := by rw [g246, wI_at (by decide)]
                                    have s254 : (h245.1 96 10).toInt = 2 := by rw [g246, wI_is]; rfl
                                    refine R_goto 239 rfl rfl ?_
                                    exact R_vret rfl rfl ⟨hI, fr, ⟨by omega, by omega, by omega, by omega, by omega, by omega, trivial⟩, rfl⟩
                                  · exfalso; omega
                                · show RUN d_X9_advance 162 [(1, .inl x50), (0, .inr (.inr (.inl 96)))] [.inl x231] h170 _
                                  refine N_if_eq (a := x231.toInt) 206 rfl rfl rfl (fun c255 => ?_) (fun c255 => ?_)
                                  · exfalso; omega
                                  · refine R_aload_n (k := 0) rfl rfl rfl ?_
                                    refine R_ldc_i (x := 99999) rfl kt_9_166 ?_
                                    refine R_bipush 10 rfl rfl ?_
                                    refine R_aload_n (k := 0) rfl rfl rfl ?_
                                    refine R_getf_i (j := 11) rfl ft_9_163 sh_96 rfl ?_
                                    have b256 := i_rng (h170.1 96 11)
                                    refine R_imul rfl ?_
                                    refine N_any (fun x257 => ?_)
                                    refine R_aload_n (k := 0) rfl rfl rfl ?_
                                    refine R_aload_n (k := 0) rfl rfl rfl ?_
                                    refine R_getf_i (j := 8) rfl ft_9_142 sh_96 rfl ?_
                                    refine R_callV (v := .inr (.inr (.inl 96))) (As := [.inl (h170.1 96 8)]) (rest := [.inl x257, .inl 99999, .inr (.inr (.inl 96))]) rfl mt_9_i145 pp_X9_see (by decide) rfl rfl rfl (Nat.le_of_ble_eq_true rfl) (Nat.le_of_ble_eq_true rfl) ((g_X9_see h170 hI (h170.1 96 8) (by omega)).mono (fun r258 h259 p260 => ?_))
                                    obtain ⟨rfl, x262, rfl, (q263 | q263), zq261, -⟩ := p260
                                    · show RUN d_X9_advance 183 [(1, .inl x50), (0, .inr (.inr (.inl 96)))] [.inl x262, .inl x257, .inl 99999, .inr (.inr (.inl 96))] h170 _
                                      have b264 := i_rng x257
                                      refine R_iadd rfl ?_
                                      refine N_any (fun x265 => ?_)
                                      refine R_bipush 48 rfl rfl ?_
                                      have b266 := i_rng x265
                                      refine R_isub rfl ?_
                                      refine N_any (fun x267 => ?_)
                                      refine N_min (a := 99999) (b := x267.toInt) rfl mt_9_i167 (by decide) rfl ⟨by decide, by decide, Nat.le_of_ble_eq_true rfl⟩ (fun x268 q269 => ?_)
                                      refine K_putf (j := 11) (lo := (-2147483648)) (hi' := 2147483647) rfl ft_9_163 sh_96 rfl hI (by decide) rfl (i_rng _) fr (by decide) (fun h270 g271 hI fr => ?_)
                                      have fl171 : FR [96] h158 h270 := by rw [g271]; exact FR_wI _ _ fl171 (by decide)
                                      have fl8 : FR [96] h h270 := by rw [g271]; exact FR_wI _ _ fl8 (by decide)
                                      have s272 : (h270.1 96 7).toInt = (h170.1 96 7).toInt := by rw [g271, wI_at (by decide)]
                                      have s273 : (h270.1 96 5).toInt = (h170.1 96 5).toInt := by rw [g271, wI_at (by decide)]
                                      have s274 : (h270.1 96 8).toInt = (h170.1 96 8).toInt := by rw [g271, wI_at (by decide)]
                                      have s275 : (h270.1 96 12).toInt = (h170.1 96 12).toInt := by rw [g271, wI_at (by decide)]
                                      have s276 : (h270.1 96 13).toInt = (h170.1 96 13).toInt := by rw [g271, wI_at (by decide)]
                                      have s277 : (h270.1 96 10).toInt = (h170.1 96 10).toInt := by rw [g271, wI_at (by decide)]
                                      have s278 : (h270.1 96 9).toInt = (h170.1 96 9).toInt := by rw [g271, wI_at (by decide)]
                                      have s279 : (h270.1 96 11).toInt = x268.toInt := by rw [g271, wI_is]
                                      refine R_aload_n (k := 0) rfl rfl rfl ?_
                                      refine R_dup_r rfl ?_
                                      refine R_getf_i (j := 8) rfl ft_9_142 sh_96 rfl ?_
                                      refine R_iconst 1 rfl rfl ?_
                                      refine N_iadd (a := (h270.1 96 8).toInt) (b := 1) rfl rfl (by decide) (by omega) (fun x280 q281 => ?_)
                                      refine K_putf (j := 8) (lo := 0) (hi' := 500) rfl ft_9_142 sh_96 rfl hI (by decide) rfl (by omega) fr (by decide) (fun h282 g283 hI fr => ?_)
                                      have fl171 : FR [96] h158 h282 := by rw [g283]; exact FR_wI _ _ fl171 (by decide)
                                      have fl8 : FR [96] h h282 := by rw [g283]; exact FR_wI _ _ fl8 (by decide)
                                      have s284 : (h282.1 96 7).toInt = (h270.1 96 7).toInt := by rw [g283, wI_at (by decide)]
                                      have s285 : (h282.1 96 5).toInt = (h270.1 96 5).toInt := by rw [g283, wI_at (by decide)]
                                      have s286 : (h282.1 96 12).toInt = (h270.1 96 12).toInt := by rw [g283, wI_at (by decide)]
                                      have s287 : (h282.1 96 13).toInt = (h270.1 96 13).toInt := by rw [g283, wI_at (by decide)]
                                      have s288 : (h282.1 96 10).toInt = (h270.1 96 10).toInt := by rw [g283, wI_at (by decide)]
                                      have s289 : (h282.1 96 9).toInt = (h270.1 96 9).toInt := by rw [g283, wI_at (by decide)]
                                      have s290 : (h282.1 96 11).toInt = (h270.1 96 11).toInt := by rw [g283, wI_at (by decide)]
                                      have s291 : (h282.1 96 8).toInt = x280.toInt := by rw [g283, wI_is]
                                      refine R_goto 144 rfl rfl ?_
                                      exact RUN_weak (psub_cons rfl (psub_cons rfl (psub_nil _))) (ih172 h282 hI fr fl171 (by omega) (by omega) (by omega) (by omega) (by omega) (by omega) trivial (by omega) (by omega) (by omega) (by omega) (by omega) (by omega) (by omega) (by omega) (by omega) (by omega) (by rw [g283, seeF_w (by decide), g271, seeF_w (by decide)]; exact m193) (Or.inl (by omega)) (by omega) (by omega))
                                    · show RUN d_X9_advance 183 [(1, .inl x50), (0, .inr (.inr (.inl 96)))] [.inl x262, .inl x257, .inl 99999, .inr (.inr (.inl 96))] h170 _
                                      have b292 := i_rng x257
                                      refine R_iadd rfl ?_
                                      refine N_any (fun x293 => ?_)
                                      refine R_bipush 48 rfl rfl ?_
                                      have b294 := i_rng x293
                                      refine R_isub rfl ?_
                                      refine N_any (fun x295 => ?_)
                                      refine N_min (a := 99999) (b := x295.toInt) rfl mt_9_i167 (by decide) rfl ⟨by decide, by decide, Nat.le_of_ble_eq_true rfl⟩ (fun x296 q297 => ?_)
                                      refine K_putf (j := 11) (lo := (-2147483648)) (hi' := 2147483647) rfl ft_9_163 sh_96 rfl hI (by decide) rfl (i_rng _) fr (by decide) (fun h298 g299 hI fr => ?_)
                                      have fl171 : FR [96] h158 h298 := by rw [g299]; exact FR_wI _ _ fl171 (by decide)
                                      have fl8 : FR [96] h h298 := by rw [g299]; exact FR_wI _ _ fl8 (by decide)
                                      have s300 : (h298.1 96 7).toInt = (h170.1 96 7).toInt := by rw [g299, wI_at (by decide)]
                                      have s301 : (h298.1 96 5).toInt = (h170.1 96 5).toInt := by rw [g299, wI_at (by decide)]
                                      have s302 : (h298.1 96 8).toInt = (h170.1 96 8).toInt := by rw [g299, wI_at (by decide)]
                                      have s303 : (h298.1 96 12).toInt = (h170.1 96 12).toInt := by rw [g299, wI_at (by decide)]
                                      have s304 : (h298.1 96 13).toInt = (h170.1 96 13).toInt := by rw [g299, wI_at (by decide)]
                                      have s305 : (h298.1 96 10).toInt = (h170.1 96 10).toInt := by rw [g299, wI_at (by decide)]
                                      have s306 : (h298.1 96 9).toInt = (h170.1 96 9).toInt := by rw [g299, wI_at (by decide)]
                                      have s307 : (h298.1 96 11).toInt = x296.toInt := by rw [g299, wI_is]
                                      refine R_aload_n (k := 0) rfl rfl rfl ?_
                                      refine R_dup_r rfl ?_
                                      refine R_getf_i (j := 8) rfl ft_9_142 sh_96 rfl ?_
                                      refine R_iconst 1 rfl rfl ?_
                                      refine N_iadd (a := (h298.1 96 8).toInt) (b := 1) rfl rfl (by decide) (by omega) (fun x308 q309 => ?_)
                                      refine K_putf (j := 8) (lo := 0) (hi' := 500) rfl ft_9_142 sh_96 rfl hI (by decide) rfl (by omega) fr (by decide) (fun h310 g311 hI fr => ?_)
                                      have fl171 : FR [96] h158 h310 := by rw [g311]; exact FR_wI _ _ fl171 (by decide)
                                      have fl8 : FR [96] h h310 := by rw [g311]; exact FR_wI _ _ fl8 (by decide)
                                      have s312 : (h310.1 96 7).toInt = (h298.1 96 7).toInt := by rw [g311, wI_at (by decide)]
                                      have s313 : (h310.1 96 5).toInt = (h298.1 96 5).toInt := by rw [g311, wI_at (by decide)]
                                      have s314 : (h310.1 96 12).toInt = (h298.1 96 12).toInt := by rw [g311, wI_at (by decide)]
                                      have s315 : (h310.1 96 13).toInt = (h298.1 96 13).toInt := by rw [g311, wI_at (by decide)]
                                      have s316 : (h310.1 96 10).toInt = (h298.1 96 10).toInt := by rw [g311, wI_at (by decide)]
                                      have s317 : (h310.1 96 9).toInt = (h298.1 96 9).toInt := by rw [g311, wI_at (by decide)]
                                      have s318 : (h310.1 96 11).toInt = (h298.1 96 11).toInt := by rw [g311, wI_at (by decide)]
                                      have s319 : (h310.1 96 8).toInt = x308.toInt := by rw [g311, wI_is]
                                      refine R_goto 144 rfl rfl ?_
                                      exact RUN_weak (psub_cons rfl (psub_cons rfl (psub_nil _))) (ih172 h310 hI fr fl171 (by omega) (by omega) (by omega) (by omega) (by omega) (by omega) trivial (by omega) (by omega) (by omega) (by omega) (by omega) (by omega) (by omega) (by omega) (by omega) (by omega) (by rw [g311, seeF_w (by decide), g299, seeF_w (by decide)]; exact m193) (Or.inl (by omega)) (by omega) (by omega))
                          exact lp169 _ h158 hI fr (FR.rf _ _) rfl rfl rfl rfl rfl (by omega) trivial (by omega) (by omega) (by omega) (by omega) (by omega) (by omega) (by omega) (by omega) (by omega) (by omega) (by rw [g159, seeF_w (by decide)]; exact sS65) (Or.inr (by rw [g159, wI_at (by decide)])) (by omega) (Nat.lt_succ_self _)
                    · exfalso; omega
                  · show RUN d_X9_advance 80 [(1, .inl x50), (0, .inr (.inr (.inl 96)))] [.inl x75] h36 _
                    refine N_if_eq (a := x75.toInt) 125 rfl rfl rfl (fun c320 => ?_) (fun c320 => ?_)
                    · refine R_iload_n (k := 1) rfl rfl rfl ?_
                      refine N_i2l rfl (fun w321 q322 => ?_)
                      refine R_ldc2 (x := 48) rfl kt_9_159 ?_
                      refine R_ldc2 (x := 57) rfl kt_9_161 ?_
                      have k323 : (48 : Int64).toInt = 48 := by decide
                      have k324 : (57 : Int64).toInt = 57 := by decide
                      refine R_callS (As := [.inr (.inl w321), .inr (.inl 48), .inr (.inl 57)]) (rest := []) rfl mt_9_i125 (by decide) pp_X9_in (by decide) rfl rfl (Nat.le_of_ble_eq_true rfl) (Nat.le_of_ble_eq_true rfl) ((k_X9_in h36 hI w321 (48 : Int64) (57 : Int64)).mono (fun r325 h326 p327 => ?_))
                      obtain ⟨rfl, x328, rfl, q329 | q329 | q329⟩ := p327
                      · exfalso; omega
                      · show RUN d_X9_advance 136 [(1, .inl x50), (0, .inr (.inr (.inl 96)))] [.inl x328] h36 _
                        refine N_if_eq (a := x328.toInt) 214 rfl rfl rfl (fun c330 => ?_) (fun c330 => ?_)
                        · refine R_aload_n (k := 0) rfl rfl rfl ?_
                          refine R_iload_n (k := 1) rfl rfl rfl ?_
                          refine R_bipush 59 rfl rfl ?_
                          refine N_icmp_ne (a := x50.toInt) (b := 59) 225 rfl rfl rfl (by decide) (fun c331 => ?_) (fun c331 => ?_)
                          · refine R_iconst 4 rfl rfl ?_
                            refine K_putf (j := 10) (lo := (-2147483648)) (hi' := 2147483647) rfl ft_9_152 sh_96 rfl hI (by decide) rfl (by decide) fr (by decide) (fun h332 g333 hI fr => ?_)
                            have fl8 : FR [96] h h332 := by rw [g333]; exact FR_wI _ _ fl8 (by decide)
                            have s334 : (h332.1 96 7).toInt = (h36.1 96 7).toInt := by rw [g333, wI_at (by decide)]
                            have s335 : (h332.1 96 5).toInt = (h36.1 96 5).toInt := by rw [g333, wI_at (by decide)]
                            have s336 : (h332.1 96 8).toInt = (h36.1 96 8).toInt := by rw [g333, wI_at (by decide)]
                            have s337 : (h332.1 96 12).toInt = (h36.1 96 12).toInt := by rw [g333, wI_at (by decide)]
                            have s338 : (h332.1 96 13).toInt = (h36.1 96 13).toInt := by rw [g333, wI_at (by decide)]
                            have s339 : (h332.1 96 11).toInt = (h36.1 96 11).toInt := by rw [g333, wI_at (by decide)]
                            have s340 : (h332.1 96 9).toInt = (h36.1 96 9).toInt := by rw [g333, wI_at (by decide)]
                            have s341 : (h332.1 96 10).toInt = 4 := by rw [g333, wI_is]; rfl
                            refine R_aload_n (k := 0) rfl rfl rfl ?_
                            refine R_dup_r rfl ?_
                            refine R_getf_i (j := 8) rfl ft_9_142 sh_96 rfl ?_
                            refine R_iconst 1 rfl rfl ?_
                            refine N_iadd (a := (h332.1 96 8).toInt) (b := 1) rfl rfl (by decide) (by omega) (fun x342 q343 => ?_)
                            refine K_putf (j := 8) (lo := 0) (hi' := 500) rfl ft_9_142 sh_96 rfl hI (by decide) rfl (by omega) fr (by decide) (fun h344 g345 hI fr => ?_)
                            have fl8 : FR [96] h h344 := by rw [g345]; exact FR_wI _ _ fl8 (by decide)
                            have s346 : (h344.1 96 7).toInt = (h332.1 96 7).toInt := by rw [g345, wI_at (by decide)]
                            have s347 : (h344.1 96 5).toInt = (h332.1 96 5).toInt := by rw [g345, wI_at (by decide)]
                            have s348 : (h344.1 96 12).toInt = (h332.1 96 12).toInt := by rw [g345, wI_at (by decide)]
                            have s349 : (h344.1 96 13).toInt = (h332.1 96 13).toInt := by rw [g345, wI_at (by decide)]
                            have s350 : (h344.1 96 11).toInt = (h332.1 96 11).toInt := by rw [g345, wI_at (by decide)]
                            have s351 : (h344.1 96 9).toInt = (h332.1 96 9).toInt := by rw [g345, wI_at (by decide)]
                            have s352 : (h344.1 96 10).toInt = (h332.1 96 10).toInt := by rw [g345, wI_at (by decide)]
                            have s353 : (h344.1 96 8).toInt = x342.toInt := by rw [g345, wI_is]
                            exact R_vret rfl rfl ⟨hI, fr, ⟨by omega, by omega, by omega, by omega, by omega, by omega, trivial⟩, rfl⟩
                          · exfalso; omega
                        · exfalso; omega
                      · exfalso; omega
                    · exfalso; omega
                  · show RUN d_X9_advance 80 [(1, .inl x50), (0, .inr (.inr (.inl 96)))] [.inl x75] h36 _
                    refine N_if_eq (a := x75.toInt) 125 rfl rfl rfl (fun c354 => ?_) (fun c354 => ?_)
                    · exfalso; omega
                    · have lp356 : ∀ (n355 : Nat) (h357 : PH), INV h357 → FR [96] h h357 → FR [96] h36 h357 → (h357.1 96 7).toInt = (h36.1 96 7).toInt → (h357.1 96 5).toInt = (h36.1 96 5).toInt → (h357.1 96 12).toInt = (h36.1 96 12).toInt → (h357.1 96 13).toInt = (h36.1 96 13).toInt → (h357.1 96 11).toInt = (h36.1 96 11).toInt → (h357.1 96 9).toInt = (h36.1 96 9).toInt → 2 ≤ (h357.1 96 8).toInt ∧ (h357.1 96 8).toInt ≤ 498 → True → (h357.1 96 8).toInt ≤ x50.toInt + 399 → (h357.1 96 8).toInt ≤ (h36.1 96 7).toInt + (-2) → (h36.1 96 7).toInt ≤ (h357.1 96 8).toInt + (-1) → (h36.1 96 7).toInt ≤ (h357.1 96 8).toInt + 0 → (h357.1 96 8).toInt ≤ (h36.1 96 5).toInt + 496 → (h357.1 96 8).toInt ≤ (h36.1 96 12).toInt + 496 → (h357.1 96 8).toInt ≤ (h36.1 96 9).toInt + (-2) → (h36.1 96 9).toInt ≤ (h357.1 96 8).toInt + (-1) → (h36.1 96 9).toInt ≤ (h357.1 96 8).toInt + 0 → (seeF h357 = seeF h) → ((h36.1 96 8).toInt + 1 ≤ (h357.1 96 8).toInt ∨ h357.1 96 8 = h36.1 96 8) → ((h36.1 96 8).toInt ≤ (h357.1 96 8).toInt) → (498 - (h357.1 96 8).toInt).toNat < n355 → RUN d_X9_advance 83 [(1, .inl x50), (0, .inr (.inr (.inl 96)))] [] h357 (qg_X9_advance h) := by
                        intro n355
                        induction n355 with
                        | zero => intro h357 m360 m361 m362 m363 m364 m365 m366 m367 m368 m369 m370 m371 m372 m373 m374 m375 m376 m377 m378 m379 m380 m381 m382 hz; exact absurd hz (Nat.not_lt_zero _)
                        | succ n355 ih359 =>
                          intro h357 hI fr fl358 m363 m364 m365 m366 m367 m368 m369 m370 m371 m372 m373 m374 m375 m376 m377 m378 m379 m380 m381 m382 hz
                          have fl8 : FR [96] h h357 := fl8.trans fl358 (by decide)
                          refine R_aload_n (k := 0) rfl rfl rfl ?_
                          refine R_aload_n (k := 0) rfl rfl rfl ?_
                          refine R_getf_i (j := 8) rfl ft_9_142 sh_96 rfl ?_
                          refine R_callV (v := .inr (.inr (.inl 96))) (As := [.inl (h357.1 96 8)]) (rest := []) rfl mt_9_i145 pp_X9_see (by decide) rfl rfl rfl (Nat.le_of_ble_eq_true rfl) (Nat.le_of_ble_eq_true rfl) ((g_X9_see h357 hI (h357.1 96 8) (by omega)).mono (fun r383 h384 p385 => ?_))
                          obtain ⟨rfl, x387, rfl, (q388 | q388), zq386, -⟩ := p385
                          · show RUN d_X9_advance 91 [(1, .inl x50), (0, .inr (.inr (.inl 96)))] [.inl x387] h357 _
                            have sy389 : (h36.1 96 8).toInt + 1 ≤ (h357.1 96 8).toInt ∨ x387.toInt = x50.toInt := Or.elim m381 Or.inl (fun c => Or.inr (by rw [zq386, m380, c, ← sz66]))
                            refine N_i2l rfl (fun w390 q391 => ?_)
                            refine R_ldc2 (x := 97) rfl kt_9_155 ?_
                            refine R_ldc2 (x := 122) rfl kt_9_157 ?_
                            have k392 : (97 : Int64).toInt = 97 := by decide
                            have k393 : (122 : Int64).toInt = 122 := by decide
                            refine R_callS (As := [.inr (.inl w390), .inr (.inl 97), .inr (.inl 122)]) (rest := []) rfl mt_9_i125 (by decide) pp_X9_in (by decide) rfl rfl (Nat.le_of_ble_eq_true rfl) (Nat.le_of_ble_eq_true rfl) ((k_X9_in h357 hI w390 (97 : Int64) (122 : Int64)).mono (fun r394 h395 p396 => ?_))
                            obtain ⟨rfl, x397, rfl, q398 | q398 | q398⟩ := p396
                            · show RUN d_X9_advance 101 [(1, .inl x50), (0, .inr (.inr (.inl 96)))] [.inl x397] h357 _
                              refine N_if_eq (a := x397.toInt) 117 rfl rfl rfl (fun c399 => ?_) (fun c399 => ?_)
                              · refine R_aload_n (k := 0) rfl rfl rfl ?_
                                refine R_iconst 1 rfl rfl ?_
                                refine K_putf (j := 10) (lo := (-2147483648)) (hi' := 2147483647) rfl ft_9_152 sh_96 rfl hI (by decide) rfl (by decide) fr (by decide) (fun h400 g401 hI fr => ?_)
                                have fl358 : FR [96] h36 h400 := by rw [g401]; exact FR_wI _ _ fl358 (by decide)
                                have fl8 : FR [96] h h400 := by rw [g401]; exact FR_wI _ _ fl8 (by decide)
                                have s402 : (h400.1 96 7).toInt = (h357.1 96 7).toInt := by rw [g401, wI_at (by decide)]
                                have s403 : (h400.1 96 5).toInt = (h357.1 96 5).toInt := by rw [g401, wI_at (by decide)]
                                have s404 : (h400.1 96 8).toInt = (h357.1 96 8).toInt := by rw [g401, wI_at (by decide)]
                                have s405 : (h400.1 96 12).toInt = (h357.1 96 12).toInt := by rw [g401, wI_at (by decide)]
                                have s406 : (h400.1 96 13).toInt = (h357.1 96 13).toInt := by rw [g401, wI_at (by decide)]
                                have s407 : (h400.1 96 11).toInt = (h357.1 96 11).toInt := by rw [g401, wI_at (by decide)]
                                have s408 : (h400.1 96 9).toInt = (h357.1 96 9).toInt := by rw [g401, wI_at (by decide)]
                                have s409 : (h400.1 96 10).toInt = 1 := by rw [g401, wI_is]; rfl
                                refine R_goto 239 rfl rfl ?_
                                exact R_vret rfl rfl ⟨hI, fr, ⟨by omega, by omega, by omega, by omega, by omega, by omega, trivial⟩, rfl⟩
                              · exfalso; omega
                            · exfalso; omega
                            · exfalso; omega
                          · show RUN d_X9_advance 91 [(1, .inl x50), (0, .inr (.inr (.inl 96)))] [.inl x387] h357 _
                            have sy410 : (h36.1 96 8).toInt + 1 ≤ (h357.1 96 8).toInt ∨ x387.toInt = x50.toInt := Or.elim m381 Or.inl (fun c => Or.inr (by rw [zq386, m380, c, ← sz66]))
                            refine N_i2l rfl (fun w411 q412 => ?_)
                            refine R_ldc2 (x := 97) rfl kt_9_155 ?_
                            refine R_ldc2 (x := 122) rfl kt_9_157 ?_
                            have k413 : (97 : Int64).toInt = 97 := by decide
                            have k414 : (122 : Int64).toInt = 122 := by decide
                            refine R_callS (As := [.inr (.inl w411), .inr (.inl 97), .inr (.inl 122)]) (rest := []) rfl mt_9_i125 (by decide) pp_X9_in (by decide) rfl rfl (Nat.le_of_ble_eq_true rfl) (Nat.le_of_ble_eq_true rfl) ((k_X9_in h357 hI w411 (97 : Int64) (122 : Int64)).mono (fun r415 h416 p417 => ?_))
                            obtain ⟨rfl, x418, rfl, q419 | q419 | q419⟩ := p417
                            · show RUN d_X9_advance 101 [(1, .inl x50), (0, .inr (.inr (.inl 96)))] [.inl x418] h357 _
                              refine N_if_eq (a := x418.toInt) 117 rfl rfl rfl (fun c420 => ?_) (fun c420 => ?_)
                              · refine R_aload_n (k := 0) rfl rfl rfl ?_
                                refine R_iconst 1 rfl rfl ?_
                                refine K_putf (j := 10) (lo := (-2147483648)) (hi' := 2147483647) rfl ft_9_152 sh_96 rfl hI (by decide) rfl (by decide) fr (by decide) (fun h421 g422 hI fr => ?_)
                                have fl358 : FR [96] h36 h421 := by rw [g422]; exact FR_wI _ _ fl358 (by decide)
                                have fl8 : FR [96] h h421 := by rw [g422]; exact FR_wI _ _ fl8 (by decide)
                                have s423 : (h421.1 96 7).toInt = (h357.1 96 7).toInt := by rw [g422, wI_at (by decide)]
                                have s424 : (h421.1 96 5).toInt = (h357.1 96 5).toInt := by rw [g422, wI_at (by decide)]
                                have s425 : (h421.1 96 8).toInt = (h357.1 96 8).toInt := by rw [g422, wI_at (by decide)]
                                have s426 : (h421.1 96 12).toInt = (h357.1 96 12).toInt := by rw [g422, wI_at (by decide)]
                                have s427 : (h421.1 96 13).toInt = (h357.1 96 13).toInt := by rw [g422, wI_at (by decide)]
                                have s428 : (h421.1 96 11).toInt = (h357.1 96 11).toInt := by rw [g422, wI_at (by decide)]
                                have s429 : (h421.1 96 9).toInt = (h357.1 96 9).toInt := by rw [g422, wI_at (by decide)]
                                have s430 : (h421.1 96 10).toInt = 1 := by rw [g422, wI_is]; rfl
                                refine R_goto 239 rfl rfl ?_
                                exact R_vret rfl rfl ⟨hI, fr, ⟨by omega, by omega, by omega, by omega, by omega, by omega, trivial⟩, rfl⟩
                              · exfalso; omega
                            · show RUN d_X9_advance 101 [(1, .inl x50), (0, .inr (.inr (.inl 96)))] [.inl x418] h357 _
                              refine N_if_eq (a := x418.toInt) 117 rfl rfl rfl (fun c431 => ?_) (fun c431 => ?_)
                              · refine R_aload_n (k := 0) rfl rfl rfl ?_
                                refine R_iconst 1 rfl rfl ?_
                                refine K_putf (j := 10) (lo := (-2147483648)) (hi' := 2147483647) rfl ft_9_152 sh_96 rfl hI (by decide) rfl (by decide) fr (by decide) (fun h432 g433 hI fr => ?_)
                                have fl358 : FR [96] h36 h432 := by rw [g433]; exact FR_wI _ _ fl358 (by decide)
                                have fl8 : FR [96] h h432 := by rw [g433]; exact FR_wI _ _ fl8 (by decide)
                                have s434 : (h432.1 96 7).toInt = (h357.1 96 7).toInt := by rw [g433, wI_at (by decide)]
                                have s435 : (h432.1 96 5).toInt = (h357.1 96 5).toInt := by rw [g433, wI_at (by decide)]
                                have s436 : (h432.1 96 8).toInt = (h357.1 96 8).toInt := by rw [g433, wI_at (by decide)]
                                have s437 : (h432.1 96 12).toInt = (h357.1 96 12).toInt := by rw [g433, wI_at (by decide)]
                                have s438 : (h432.1 96 13).toInt = (h357.1 96 13).toInt := by rw [g433, wI_at (by decide)]
                                have s439 : (h432.1 96 11).toInt = (h357.1 96 11).toInt := by rw [g433, wI_at (by decide)]
                                have s440 : (h432.1 96 9).toInt = (h357.1 96 9).toInt := by rw [g433, wI_at (by decide)]
                                have s441 : (h432.1 96 10).toInt = 1 := by rw [g433, wI_is]; rfl
                                refine R_goto 239 rfl rfl ?_
                                exact R_vret rfl rfl ⟨hI, fr, ⟨by omega, by omega, by omega, by omega, by omega, by omega, trivial⟩, rfl⟩
                              · exfalso; omega
                            · show RUN d_X9_advance 101 [(1, .inl x50), (0, .inr (.inr (.inl 96)))] [.inl x418] h357 _
                              refine N_if_eq (a := x418.toInt) 117 rfl rfl rfl (fun c442 => ?_) (fun c442 => ?_)
                              · exfalso; omega
                              · refine R_aload_n (k := 0) rfl rfl rfl ?_
                                refine R_dup_r rfl ?_
                                refine R_getf_i (j := 8) rfl ft_9_142 sh_96 rfl ?_
                                refine R_iconst 1 rfl rfl ?_
                                refine N_iadd (a := (h357.1 96 8).toInt) (b := 1) rfl rfl (by decide) (by omega) (fun x443 q444 => ?_)
                                refine K_putf (j := 8) (lo := 0) (hi' := 500) rfl ft_9_142 sh_96 rfl hI (by decide) rfl (by omega) fr (by decide) (fun h445 g446 hI fr => ?_)
                                have fl358 : FR [96] h36 h445 := by rw [g446]; exact FR_wI _ _ fl358 (by decide)
                                have fl8 : FR [96] h h445 := by rw [g446]; exact FR_wI _ _ fl8 (by decide)
                                have s447 : (h445.1 96 7).toInt = (h357.1 96 7).toInt := by rw [g446, wI_at (by decide)]
                                have s448 : (h445.1 96 5).toInt = (h357.1 96 5).toInt := by rw [g446, wI_at (by decide)]
                                have s449 : (h445.1 96 12).toInt = (h357.1 96 12).toInt := by rw [g446, wI_at (by decide)]
                                have s450 : (h445.1 96 13).toInt = (h357.1 96 13).toInt := by rw [g446, wI_at (by decide)]
                                have s451 : (h445.1 96 10).toInt = (h357.1 96 10).toInt := by rw [g446, wI_at (by decide)]
                                have s452 : (h445.1 96 11).toInt = (h357.1 96 11).toInt := by rw [g446, wI_at (by decide)]
                                have s453 : (h445.1 96 9).toInt = (h357.1 96 9).toInt := by rw [g446, wI_at (by decide)]
                                have s454 : (h445.1 96 8).toInt = x443.toInt := by rw [g446, wI_is]
                                refine R_goto 83 rfl rfl ?_
                                exact RUN_weak (psub_cons rfl (psub_cons rfl (psub_nil _))) (ih359 h445 hI fr fl358 (by omega) (by omega) (by omega) (by omega) (by omega) (by omega) (by omega) trivial (by omega) (by omega) (by omega) (by omega) (by omega) (by omega) (by omega) (by omega) (by omega) (by rw [g446, seeF_w (by decide)]; exact m380) (Or.inl (by omega)) (by omega) (by omega))
                      exact lp356 _ h36 hI fr (FR.rf _ _) rfl rfl rfl rfl rfl rfl (by omega) trivial (by omega) (by omega) (by omega) (by omega) (by omega) (by omega) (by omega) (by omega) (by omega) (sS65) (Or.inr rfl) (by omega) (Nat.lt_succ_self _)
                · exfalso; omega
            · exfalso; omega
          · show RUN d_X9_advance 21 [(0, .inr (.inr (.inl 96)))] [.inl x33] h7 _
            refine R_bipush 10 rfl rfl ?_
            refine N_icmp_ne (a := x33.toInt) (b := 10) 39 rfl rfl rfl (by decide) (fun c455 => ?_) (fun c455 => ?_)
            · refine R_aload_n (k := 0) rfl rfl rfl ?_
              refine R_aload_n (k := 0) rfl rfl rfl ?_
              refine R_getf_i (j := 8) rfl ft_9_142 sh_96 rfl ?_
              refine K_putf (j := 9) (lo := 0) (hi' := 500) rfl ft_9_149 sh_96 rfl hI (by decide) rfl (by omega) fr (by decide) (fun h456 g457 hI fr => ?_)
              have fl8 : FR [96] h h456 := by rw [g457]; exact FR_wI _ _ fl8 (by decide)
              have s458 : (h456.1 96 7).toInt = (h7.1 96 7).toInt := by rw [g457, wI_at (by decide)]
              have s459 : (h456.1 96 5).toInt = (h7.1 96 5).toInt := by rw [g457, wI_at (by decide)]
              have s460 : (h456.1 96 8).toInt = (h7.1 96 8).toInt := by rw [g457, wI_at (by decide)]
              have s461 : (h456.1 96 12).toInt = (h7.1 96 12).toInt := by rw [g457, wI_at (by decide)]
              have s462 : (h456.1 96 13).toInt = (h7.1 96 13).toInt := by rw [g457, wI_at (by decide)]
              have s463 : (h456.1 96 10).toInt = (h7.1 96 10).toInt := by rw [g457, wI_at (by decide)]
              have s464 : (h456.1 96 11).toInt = (h7.1 96 11).toInt := by rw [g457, wI_at (by decide)]
              have s465 : (h456.1 96 9).toInt = (h7.1 96 8).toInt := by rw [g457, wI_is]
              refine R_aload_n (k := 0) rfl rfl rfl ?_
              refine R_aload_n (k := 0) rfl rfl rfl ?_
              refine R_getf_i (j := 8) rfl ft_9_142 sh_96 rfl ?_
              refine R_callV (v := .inr (.inr (.inl 96))) (As := [.inl (h456.1 96 8)]) (rest := []) rfl mt_9_i145 pp_X9_see (by decide) rfl rfl rfl (Nat.le_of_ble_eq_true rfl) (Nat.le_of_ble_eq_true rfl) ((g_X9_see h456 hI (h456.1 96 8) (by omega)).mono (fun r466 h467 p468 => ?_))
              obtain ⟨rfl, x470, rfl, (q471 | q471), zq469, -⟩ := p468
              · show RUN d_X9_advance 55 [(0, .inr (.inr (.inl 96)))] [.inl x470] h456 _
                refine R_istore_n (k := 1) rfl [(1, .inl x470), (0, .inr (.inr (.inl 96)))] rfl rfl (by decide) ?_
                have sS472 : seeF h456 = seeF h := by rw [g457, seeF_w (by decide)]; exact m20
                have sz473 : x470 = seeF h (h456.1 96 8) := by rw [← sS472]; exact zq469
                refine R_iload_n (k := 1) rfl rfl rfl ?_
                refine R_iconst (-1) rfl rfl ?_
                refine N_icmp_ne (a := x470.toInt) (b := (-1)) 69 rfl rfl rfl (by decide) (fun c474 => ?_) (fun c474 => ?_)
                · exfalso; omega
                · refine R_aload_n (k := 0) rfl rfl rfl ?_
                  refine R_iconst 0 rfl rfl ?_
                  refine K_putf (j := 10) (lo := (-2147483648)) (hi' := 2147483647) rfl ft_9_152 sh_96 rfl hI (by decide) rfl (by decide) fr (by decide) (fun h475 g476 hI fr => ?_)
                  have fl8 : FR [96] h h475 := by rw [g476]; exact FR_wI _ _ fl8 (by decide)
                  have s477 : (h475.1 96 7).toInt = (h456.1 96 7).toInt := by rw [g476, wI_at (by decide)]
                  have s478 : (h475.1 96 5).toInt = (h456.1 96 5).toInt := by rw [g476, wI_at (by decide)]
                  have s479 : (h475.1 96 8).toInt = (h456.1 96 8).toInt := by rw [g476, wI_at (by decide)]
                  have s480 : (h475.1 96 12).toInt = (h456.1 96 12).toInt := by rw [g476, wI_at (by decide)]
                  have s481 : (h475.1 96 13).toInt = (h456.1 96 13).toInt := by rw [g476, wI_at (by decide)]
                  have s482 : (h475.1 96 11).toInt = (h456.1 96 11).toInt := by rw [g476, wI_at (by decide)]
                  have s483 : (h475.1 96 9).toInt = (h456.1 96 9).toInt := by rw [g476, wI_at (by decide)]
                  have s484 : (h475.1 96 10).toInt = 0 := by rw [g476, wI_is]; rfl
                  refine R_goto 239 rfl rfl ?_
                  exact R_vret rfl rfl ⟨hI, fr, ⟨by omega, by omega, by omega, by omega, by omega, by omega, trivial⟩, rfl⟩
              · show RUN d_X9_advance 55 [(0, .inr (.inr (.inl 96)))] [.inl x470] h456 _
                refine R_istore_n (k := 1) rfl [(1, .inl x470), (0, .inr (.inr (.inl 96)))] rfl rfl (by decide) ?_
                have sS485 : seeF h456 = seeF h := by rw [g457, seeF_w (by decide)]; exact m20
                have sz486 : x470 = seeF h (h456.1 96 8) := by rw [← sS485]; exact zq469
                refine R_iload_n (k := 1) rfl rfl rfl ?_
                refine R_iconst (-1) rfl rfl ?_
                refine N_icmp_ne (a := x470.toInt) (b := (-1)) 69 rfl rfl rfl (by decide) (fun c487 => ?_) (fun c487 => ?_)
                · refine R_iload_n (k := 1) rfl rfl rfl ?_
                  refine N_i2l rfl (fun w488 q489 => ?_)
                  refine R_ldc2 (x := 97) rfl kt_9_155 ?_
                  refine R_ldc2 (x := 122) rfl kt_9_157 ?_
                  have k490 : (97 : Int64).toInt = 97 := by decide
                  have k491 : (122 : Int64).toInt = 122 := by decide
                  refine R_callS (As := [.inr (.inl w488), .inr (.inl 97), .inr (.inl 122)]) (rest := []) rfl mt_9_i125 (by decide) pp_X9_in (by decide) rfl rfl (Nat.le_of_ble_eq_true rfl) (Nat.le_of_ble_eq_true rfl) ((k_X9_in h456 hI w488 (97 : Int64) (122 : Int64)).mono (fun r492 h493 p494 => ?_))
                  obtain ⟨rfl, x495, rfl, q496 | q496 | q496⟩ := p494
                  · show RUN d_X9_advance 80 [(1, .inl x470), (0, .inr (.inr (.inl 96)))] [.inl x495] h456 _
                    refine N_if_eq (a := x495.toInt) 125 rfl rfl rfl (fun c497 => ?_) (fun c497 => ?_)
                    · refine R_iload_n (k := 1) rfl rfl rfl ?_
                      refine N_i2l rfl (fun w498 q499 => ?_)
                      refine R_ldc2 (x := 48) rfl kt_9_159 ?_
                      refine R_ldc2 (x := 57) rfl kt_9_161 ?_
                      have k500 : (48 : Int64).toInt = 48 := by decide
                      have k501 : (57 : Int64).toInt = 57 := by decide
                      refine R_callS (As := [.inr (.inl w498), .inr (.inl 48), .inr (.inl 57)]) (rest := []) rfl mt_9_i125 (by decide) pp_X9_in (by decide) rfl rfl (Nat.le_of_ble_eq_true rfl) (Nat.le_of_ble_eq_true rfl) ((k_X9_in h456 hI w498 (48 : Int64) (57 : Int64)).mono (fun r502 h503 p504 => ?_))
                      obtain ⟨rfl, x505, rfl, q506 | q506 | q506⟩ := p504
                      · show RUN d_X9_advance 136 [(1, .inl x470), (0, .inr (.inr (.inl 96)))] [.inl x505] h456 _
                        refine N_if_eq (a := x505.toInt) 214 rfl rfl rfl (fun c507 => ?_) (fun c507 => ?_)
                        · refine R_aload_n (k := 0) rfl rfl rfl ?_
                          refine R_iload_n (k := 1) rfl rfl rfl ?_
                          refine R_bipush 59 rfl rfl ?_
                          refine N_icmp_ne (a := x470.toInt) (b := 59) 225 rfl rfl rfl (by decide) (fun c508 => ?_) (fun c508 => ?_)
                          · refine R_iconst 4 rfl rfl ?_
                            refine K_putf (j := 10) (lo := (-2147483648)) (hi' := 2147483647) rfl ft_9_152 sh_96 rfl hI (by decide) rfl (by decide) fr (by decide) (fun h509 g510 hI fr => ?_)
                            have fl8 : FR [96] h h509 := by rw [g510]; exact FR_wI _ _ fl8 (by decide)
                            have s511 : (h509.1 96 7).toInt = (h456.1 96 7).toInt := by rw [g510, wI_at (by decide)]
                            have s512 : (h509.1 96 5).toInt = (h456.1 96 5).toInt := by rw [g510, wI_at (by decide)]
                            have s513 : (h509.1 96 8).toInt = (h456.1 96 8).toInt := by rw [g510, wI_at (by decide)]
                            have s514 : (h509.1 96 12).toInt = (h456.1 96 12).toInt := by rw [g510, wI_at (by decide)]
                            have s515 : (h509.1 96 13).toInt = (h456.1 96 13).toInt := by rw [g510, wI_at (by decide)]
                            have s516 : (h509.1 96 11).toInt = (h456.1 96 11).toInt := by rw [g510, wI_at (by decide)]
                            have s517 : (h509.1 96 9).toInt = (h456.1 96 9).toInt := by rw [g510, wI_at (by decide)]
                            have s518 : (h509.1 96 10).toInt = 4 := by rw [g510, wI_is]; rfl
                            refine R_aload_n (k := 0) rfl rfl rfl ?_
                            refine R_dup_r rfl ?_
                            refine R_getf_i (j := 8) rfl ft_9_142 sh_96 rfl ?_
                            refine R_iconst 1 rfl rfl ?_
                            refine N_iadd (a := (h509.1 96 8).toInt) (b := 1) rfl rfl (by decide) (by omega) (fun x519 q520 => ?_)
                            refine K_putf (j := 8) (lo := 0) (hi' := 500) rfl ft_9_142 sh_96 rfl hI (by decide) rfl (by omega) fr (by decide) (fun h521 g522 hI fr => ?_)
                            have fl8 : FR [96] h h521 := by rw [g522]; exact FR_wI _ _ fl8 (by decide)
                            have s523 : (h521.1 96 7).toInt = (h509.1 96 7).toInt := by rw [g522, wI_at (by decide)]
                            have s524 : (h521.1 96 5).toInt = (h509.1 96 5).toInt := by rw [g522, wI_at (by decide)]
                            have s525 : (h521.1 96 12).toInt = (h509.1 96 12).toInt := by rw [g522, wI_at (by decide)]
                            have s526 : (h521.1 96 13).toInt = (h509.1 96 13).toInt := by rw [g522, wI_at (by decide)]
                            have s527 : (h521.1 96 11).toInt = (h509.1 96 11).toInt := by rw [g522, wI_at (by decide)]
                            have s528 : (h521.1 96 9).toInt = (h509.1 96 9).toInt := by rw [g522, wI_at (by decide)]
                            have s529 : (h521.1 96 10).toInt = (h509.1 96 10).toInt := by rw [g522, wI_at (by decide)]
                            have s530 : (h521.1 96 8).toInt = x519.toInt := by rw [g522, wI_is]
                            exact R_vret rfl rfl ⟨hI, fr, ⟨by omega, by omega, by omega, by omega, by omega, by omega, trivial⟩, rfl⟩
                          · exfalso; omega
                        · exfalso; omega
                      · show RUN d_X9_advance 136 [(1, .inl x470), (0, .inr (.inr (.inl 96)))] [.inl x505] h456 _
                        refine N_if_eq (a := x505.toInt) 214 rfl rfl rfl (fun c531 => ?_) (fun c531 => ?_)
                        · refine R_aload_n (k := 0) rfl rfl rfl ?_
                          refine R_iload_n (k := 1) rfl rfl rfl ?_
                          refine R_bipush 59 rfl rfl ?_
                          refine N_icmp_ne (a := x470.toInt) (b := 59) 225 rfl rfl rfl (by decide) (fun c532 => ?_) (fun c532 => ?_)
                          · refine R_iconst 4 rfl rfl ?_
                            refine K_putf (j := 10) (lo := (-2147483648)) (hi' := 2147483647) rfl ft_9_152 sh_96 rfl hI (by decide) rfl (by decide) fr (by decide) (fun h533 g534 hI fr => ?_)
                            have fl8 : FR [96] h h533 := by rw [g534]; exact FR_wI _ _ fl8 (by decide)
                            have s535 : (h533.1 96 7).toInt = (h456.1 96 7).toInt := by rw [g534, wI_at (by decide)]
                            have s536 : (h533.1 96 5).toInt = (h456.1 96 5).toInt := by rw [g534, wI_at (by decide)]
                            have s537 : (h533.1 96 8).toInt = (h456.1 96 8).toInt := by rw [g534, wI_at (by decide)]
                            have s538 : (h533.1 96 12).toInt = (h456.1 96 12).toInt := by rw [g534, wI_at (by decide)]
                            have s539 : (h533.1 96 13).toInt = (h456.1 96 13).toInt := by rw [g534, wI_at (by decide)]
                            have s540 : (h533.1 96 11).toInt = (h456.1 96 11).toInt := by rw [g534, wI_at (by decide)]
                            have s541 : (h533.1 96 9).toInt = (h456.1 96 9).toInt := by rw [g534, wI_at (by decide)]
                            have s542 : (h533.1 96 10).toInt = 4 := by rw [g534, wI_is]; rfl
                            refine R_aload_n (k := 0) rfl rfl rfl ?_
                            refine R_dup_r rfl ?_
                            refine R_getf_i (j := 8) rfl ft_9_142 sh_96 rfl ?_
                            refine R_iconst 1 rfl rfl ?_
                            refine N_iadd (a := (h533.1 96 8).toInt) (b := 1) rfl rfl (by decide) (by omega) (fun x543 q544 => ?_)
                            refine K_putf (j := 8) (lo := 0) (hi' := 500) rfl ft_9_142 sh_96 rfl hI (by decide) rfl (by omega) fr (by decide) (fun h545 g546 hI fr => ?_)
                            have fl8 : FR [96] h h545 := by rw [g546]; exact FR_wI _ _ fl8 (by decide)
                            have s547 : (h545.1 96 7).toInt = (h533.1 96 7).toInt := by rw [g546, wI_at (by decide)]
                            have s548 : (h545.1 96 5).toInt = (h533.1 96 5).toInt := by rw [g546, wI_at (by decide)]
                            have s549 : (h545.1 96 12).toInt = (h533.1 96 12).toInt := by rw [g546, wI_at (by decide)]
                            have s550 : (h545.1 96 13).toInt = (h533.1 96 13).toInt := by rw [g546, wI_at (by decide)]
                            have s551 : (h545.1 96 11).toInt = (h533.1 96 11).toInt := by rw [g546, wI_at (by decide)]
                            have s552 : (h545.1 96 9).toInt = (h533.1 96 9).toInt := by rw [g546, wI_at (by decide)]
                            have s553 : (h545.1 96 10).toInt = (h533.1 96 10).toInt := by rw [g546, wI_at (by decide)]
                            have s554 : (h545.1 96 8).toInt = x543.toInt := by rw [g546, wI_is]
                            exact R_vret rfl rfl ⟨hI, fr, ⟨by omega, by omega, by omega, by omega, by omega, by omega, trivial⟩, rfl⟩
                          · refine R_iconst 3 rfl rfl ?_
                            refine R_goto 226 rfl rfl ?_
                            refine K_putf (j := 10) (lo := (-2147483648)) (hi' := 2147483647) rfl ft_9_152 sh_96 rfl hI (by decide) rfl (by decide) fr (by decide) (fun h555 g556 hI fr => ?_)
                            have fl8 : FR [96] h h555 := by rw [g556]; exact FR_wI _ _ fl8 (by decide)
                            have s557 : (h555.1 96 7).toInt = (h456.1 96 7).toInt := by rw [g556, wI_at (by decide)]
                            have s558 : (h555.1 96 5).toInt = (h456.1 96 5).toInt := by rw [g556, wI_at (by decide)]
                            have s559 : (h555.1 96 8).toInt = (h456.1 96 8).toInt := by rw [g556, wI_at (by decide)]
                            have s560 : (h555.1 96 12).toInt = (h456.1 96 12).toInt := by rw [g556, wI_at (by decide)]
                            have s561 : (h555.1 96 13).toInt = (h456.1 96 13).toInt := by rw [g556, wI_at (by decide)]
                            have s562 : (h555.1 96 11).toInt = (h456.1 96 11).toInt := by rw [g556, wI_at (by decide)]
                            have s563 : (h555.1 96 9).toInt = (h456.1 96 9).toInt := by rw [g556, wI_at (by decide)]
                            have s564 : (h555.1 96 10).toInt = 3 := by rw [g556, wI_is]; rfl
                            refine R_aload_n (k := 0) rfl rfl rfl ?_
                            refine R_dup_r rfl ?_
                            refine R_getf_i (j := 8) rfl ft_9_142 sh_96 rfl ?_
                            refine R_iconst 1 rfl rfl ?_
                            refine N_iadd (a := (h555.1 96 8).toInt) (b := 1) rfl rfl (by decide) (by omega) (fun x565 q566 => ?_)
                            refine K_putf (j := 8) (lo := 0) (hi' := 500) rfl ft_9_142 sh_96 rfl hI (by decide) rfl (by omega) fr (by decide) (fun h567 g568 hI fr => ?_)
                            have fl8 : FR [96] h h567 := by rw [g568]; exact FR_wI _ _ fl8 (by decide)
                            have s569 : (h567.1 96 7).toInt = (h555.1 96 7).toInt := by rw [g568, wI_at (by decide)]
                            have s570 : (h567.1 96 5).toInt = (h555.1 96 5).toInt := by rw [g568, wI_at (by decide)]
                            have s571 : (h567.1 96 12).toInt = (h555.1 96 12).toInt := by rw [g568, wI_at (by decide)]
                            have s572 : (h567.1 96 13).toInt = (h555.1 96 13).toInt := by rw [g568, wI_at (by decide)]
                            have s573 : (h567.1 96 11).toInt = (h555.1 96 11).toInt := by rw [g568, wI_at (by decide)]
                            have s574 : (h567.1 96 9).toInt = (h555.1 96 9).toInt := by rw [g568, wI_at (by decide)]
                            have s575 : (h567.1 96 10).toInt = (h555.1 96 10).toInt := by rw [g568, wI_at (by decide)]
                            have s576 : (h567.1 96 8).toInt = x565.toInt := by rw [g568, wI_is]
                            exact R_vret rfl rfl ⟨hI, fr, ⟨by omega, by omega, by omega, by omega, by omega, by omega, trivial⟩, rfl⟩
                        · exfalso; omega
                      · show RUN d_X9_advance 136 [(1, .inl x470), (0, .inr (.inr (.inl 96)))] [.inl x505] h456 _
                        refine N_if_eq (a := x505.toInt) 214 rfl rfl rfl (fun c577 => ?_) (fun c577 => ?_)
                        · exfalso; omega
                        · refine R_aload_n (k := 0) rfl rfl rfl ?_
                          refine R_iconst 0 rfl rfl ?_
                          refine K_putf (j := 11) (lo := (-2147483648)) (hi' := 2147483647) rfl ft_9_163 sh_96 rfl hI (by decide) rfl (by decide) fr (by decide) (fun h578 g579 hI fr => ?_)
                          have fl8 : FR [96] h h578 := by rw [g579]; exact FR_wI _ _ fl8 (by decide)
                          have s580 : (h578.1 96 7).toInt = (h456.1 96 7).toInt := by rw [g579, wI_at (by decide)]
                          have s581 : (h578.1 96 5).toInt = (h456.1 96 5).toInt := by rw [g579, wI_at (by decide)]
                          have s582 : (h578.1 96 8).toInt = (h456.1 96 8).toInt := by rw [g579, wI_at (by decide)]
                          have s583 : (h578.1 96 12).toInt = (h456.1 96 12).toInt := by rw [g579, wI_at (by decide)]
                          have s584 : (h578.1 96 13).toInt = (h456.1 96 13).toInt := by rw [g579, wI_at (by decide)]
                          have s585 : (h578.1 96 10).toInt = (h456.1 96 10).toInt := by rw [g579, wI_at (by decide)]
                          have s586 : (h578.1 96 9).toInt = (h456.1 96 9).toInt := by rw [g579, wI_at (by decide)]
                          have s587 : (h578.1 96 11).toInt = 0 := by rw [g579, wI_is]; rfl
                          have lp589 : ∀ (n588 : Nat) (h590 : PH), INV h590 → FR [96] h h590 → FR [96] h578 h590 → (h590.1 96 7).toInt = (h578.1 96 7).toInt → (h590.1 96 5).toInt = (h578.1 96 5).toInt → (h590.1 96 12).toInt = (h578.1 96 12).toInt → (h590.1 96 13).toInt = (h578.1 96 13).toInt → (h590.1 96 9).toInt = (h578.1 96 9).toInt → 2 ≤ (h590.1 96 8).toInt ∧ (h590.1 96 8).toInt ≤ 492 → True → (h590.1 96 11).toInt ≤ 99999 → (h590.1 96 8).toInt ≤ x470.toInt + 441 → (h590.1 96 8).toInt ≤ (h578.1 96 7).toInt + (-2) → (h578.1 96 7).toInt ≤ (h590.1 96 8).toInt + (-1) → (h578.1 96 7).toInt ≤ (h590.1 96 8).toInt + 0 → (h590.1 96 8).toInt ≤ (h578.1 96 5).toInt + 489 → (h590.1 96 8).toInt ≤ (h578.1 96 12).toInt + 489 → (h590.1 96 8).toInt ≤ (h578.1 96 9).toInt + (-2) → (h578.1 96 9).toInt ≤ (h590.1 96 8).toInt + (-2) → (seeF h590 = seeF h) → ((h456.1 96 8).toInt + 1 ≤ (h590.1 96 8).toInt ∨ h590.1 96 8 = h456.1 96 8) → ((h456.1 96 8).toInt ≤ (h590.1 96 8).toInt) → (492 - (h590.1 96 8).toInt).toNat < n588 → RUN d_X9_advance 144 [(1, .inl x470), (0, .inr (.inr (.inl 96)))] [] h590 (qg_X9_advance h) := by
                            intro n588
                            induction n588 with
                            | zero => intro h590 m593 m594 m595 m596 m597 m598 m599 m600 m601 m602 m603 m604 m605 m606 m607 m608 m609 m610 m611 m612 m613 m614 hz; exact absurd hz (Nat.not_lt_zero _)
                            | succ n588 ih592 =>
                              intro h590 hI fr fl591 m596 m597 m598 m599 m600 m601 m602 m603 m604 m605 m606 m607 m608 m609 m610 m611 m612 m613 m614 hz
                              have fl8 : FR [96] h h590 := fl8.trans fl591 (by decide)
                              refine R_aload_n (k := 0) rfl rfl rfl ?_
                              refine R_aload_n (k := 0) rfl rfl rfl ?_
                              refine R_getf_i (j := 8) rfl ft_9_142 sh_96 rfl ?_
                              refine R_callV (v := .inr (.inr (.inl 96))) (As := [.inl (h590.1 96 8)]) (rest := []) rfl mt_9_i145 pp_X9_see (by decide) rfl rfl rfl (Nat.le_of_ble_eq_true rfl) (Nat.le_of_ble_eq_true rfl) ((g_X9_see h590 hI (h590.1 96 8) (by omega)).mono (fun r615 h616 p617 => ?_))
                              obtain ⟨rfl, x619, rfl, (q620 | q620), zq618, -⟩ := p617
                              · show RUN d_X9_advance 152 [(1, .inl x470), (0, .inr (.inr (.inl 96)))] [.inl x619] h590 _
                                have sy621 : (h456.1 96 8).toInt + 1 ≤ (h590.1 96 8).toInt ∨ x619.toInt = x470.toInt := Or.elim m613 Or.inl (fun c => Or.inr (by rw [zq618, m612, c, ← sz486]))
                                refine N_i2l rfl (fun w622 q623 => ?_)
                                refine R_ldc2 (x := 48) rfl kt_9_159 ?_
                                refine R_ldc2 (x := 57) rfl kt_9_161 ?_
                                have k624 : (48 : Int64).toInt = 48 := by decide
                                have k625 : (57 : Int64).toInt = 57 := by decide
                                refine R_callS (As := [.inr (.inl w622), .inr (.inl 48), .inr (.inl 57)]) (rest := []) rfl mt_9_i125 (by decide) pp_X9_in (by decide) rfl rfl (Nat.le_of_ble_eq_true rfl) (Nat.le_of_ble_eq_true rfl) ((k_X9_in h590 hI w622 (48 : Int64) (57 : Int64)).mono (fun r626 h627 p628 => ?_))
                                obtain ⟨rfl, x629, rfl, q630 | q630 | q630⟩ := p628
                                · show RUN d_X9_advance 162 [(1, .inl x470), (0, .inr (.inr (.inl 96)))] [.inl x629] h590 _
                                  refine N_if_eq (a := x629.toInt) 206 rfl rfl rfl (fun c631 => ?_) (fun c631 => ?_)
                                  · refine R_aload_n (k := 0) rfl rfl rfl ?_
                                    refine R_iconst 2 rfl rfl ?_
                                    refine K_putf (j := 10) (lo := (-2147483648)) (hi' := 2147483647) rfl ft_9_152 sh_96 rfl hI (by decide) rfl (by decide) fr (by decide) (fun h632 g633 hI fr => ?_)
                                    have fl591 : FR [96] h578 h632 := by rw [g633]; exact FR_wI _ _ fl591 (by decide)
                                    have fl8 : FR [96] h h632 := by rw [g633]; exact FR_wI _ _ fl8 (by decide)
                                    have s634 : (h632.1 96 7).toInt = (h590.1 96 7).toInt := by rw [g633, wI_at (by decide)]
                                    have s635 : (h632.1 96 5).toInt = (h590.1 96 5).toInt := by rw [g633, wI_at (by decide)]
                                    have s636 : (h632.1 96 8).toInt = (h590.1 96 8).toInt := by rw [g633, wI_at (by decide)]
                                    have s637 : (h632.1 96 12).toInt = (h590.1 96 12).toInt := by rw [g633, wI_at (by decide)]
                                    have s638 : (h632.1 96 13).toInt = (h590.1 96 13).toInt := by rw [g633, wI_at (by decide)]
                                    have s639 : (h632.1 96 9).toInt = (h590.1 96 9).toInt := by rw [g633, wI_at (by decide)]
                                    have s640 : (h632.1 96 11).toInt = (h590.1 96 11).toInt := by rw [g633, wI_at (by decide)]
                                    have s641 : (h632.1 96 10).toInt = 2 := by rw [g633, wI_is]; rfl
                                    refine R_goto 239 rfl rfl ?_
                                    exact R_vret rfl rfl ⟨hI, fr, ⟨by omega, by omega, by omega, by omega, by omega, by omega, trivial⟩, rfl⟩
                                  · exfalso; omega
                                · exfalso; omega
                                · exfalso; omega
                              · show RUN d_X9_advance 152 [(1, .inl x470), (0, .inr (.inr (.inl 96)))] [.inl x619] h590 _
                                have sy642 : (h456.1 96 8).toInt + 1 ≤ (h590.1 96 8).toInt ∨ x619.toInt = x470.toInt := Or.elim m613 Or.inl (fun c => Or.inr (by rw [zq618, m612, c, ← sz486]))
                                refine N_i2l rfl (fun w643 q644 => ?_)
                                refine R_ldc2 (x := 48) rfl kt_9_159 ?_
                                refine R_ldc2 (x := 57) rfl kt_9_161 ?_
                                have k645 : (48 : Int64).toInt = 48 := by decide
                                have k646 : (57 : Int64).toInt = 57 := by decide
                                refine R_callS (As := [.inr (.inl w643), .inr (.inl 48), .inr (.inl 57)]) (rest := []) rfl mt_9_i125 (by decide) pp_X9_in (by decide) rfl rfl (Nat.le_of_ble_eq_true rfl) (Nat.le_of_ble_eq_true rfl) ((k_X9_in h590 hI w643 (48 : Int64) (57 : Int64)).mono (fun r647 h648 p649 => ?_))
                                obtain ⟨rfl, x650, rfl, q651 | q651 | q651⟩ := p649
                                · show RUN d_X9_advance 162 [(1, .inl x470), (0, .inr (.inr (.inl 96)))] [.inl x650] h590 _
                                  refine N_if_eq (a := x650.toInt) 206 rfl rfl rfl (fun c652 => ?_) (fun c652 => ?_)
                                  · refine R_aload_n (k := 0) rfl rfl rfl ?_
                                    refine R_iconst 2 rfl rfl ?_
                                    refine K_putf (j := 10) (lo := (-2147483648)) (hi' := 2147483647) rfl ft_9_152 sh_96 rfl hI (by decide) rfl (by decide) fr (by decide) (fun h653 g654 hI fr => ?_)
                                    have fl591 : FR [96] h578 h653 := by rw [g654]; exact FR_wI _ _ fl591 (by decide)
                                    have fl8 : FR [96] h h653 := by rw [g654]; exact FR_wI _ _ fl8 (by decide)
                                    have s655 : (h653.1 96 7).toInt = (h590.1 96 7).toInt := by rw [g654, wI_at (by decide)]
                                    have s656 : (h653.1 96 5).toInt = (h590.1 96 5).toInt := by rw [g654, wI_at (by decide)]
                                    have s657 : (h653.1 96 8).toInt = (h590.1 96 8).toInt := by rw [g654, wI_at (by decide)]
                                    have s658 : (h653.1 96 12).toInt = (h590.1 96 12).toInt := by rw [g654, wI_at (by decide)]
                                    have s659 : (h653.1 96 13).toInt = (h590.1 96 13).toInt := by rw [g654, wI_at (by decide)]
                                    have s660 : (h653.1 96 9).toInt = (h590.1 96 9).toInt := by rw [g654, wI_at (by decide)]
                                    have s661 : (h653.1 96 11).toInt = (h590.1 96 11).toInt := by rw [g654, wI_at (by decide)]
                                    have s662 : (h653.1 96 10).toInt = 2 := by rw [g654, wI_is]; rfl
                                    refine R_goto 239 rfl rfl ?_
                                    exact R_vret rfl rfl ⟨hI, fr, ⟨by omega, by omega, by omega, by omega, by omega, by omega, trivial⟩, rfl⟩
                                  · exfalso; omega
                                · show RUN d_X9_advance 162 [(1, .inl x470), (0, .inr (.inr (.inl 96)))] [.inl x650] h590 _
                                  refine N_if_eq (a := x650.toInt) 206 rfl rfl rfl (fun c663 => ?_) (fun c663 => ?_)
                                  · refine R_aload_n (k := 0) rfl rfl rfl ?_
                                    refine R_iconst 2 rfl rfl ?_
                                    refine K_putf (j := 10) (lo := (-2147483648)) (hi' := 2147483647) rfl ft_9_152 sh_96 rfl hI (by decide) rfl (by decide) fr (by decide) (fun h664 g665 hI fr => ?_)
                                    have fl591 : FR [96] h578 h664 := by rw [g665]; exact FR_wI _ _ fl591 (by decide)
                                    have fl8 : FR [96] h h664 := by rw [g665]; exact FR_wI _ _ fl8 (by decide)
                                    have s666 : (h664.1 96 7).toInt = (h590.1 96 7).toInt := by rw [g665, wI_at (by decide)]
                                    have s667 : (h664.1 96 5).toInt = (h590.1 96 5).toInt := by rw [g665, wI_at (by decide)]
                                    have s668 : (h664.1 96 8).toInt = (h590.1 96 8).toInt := by rw [g665, wI_at (by decide)]
                                    have s669 : (h664.1 96 12).toInt = (h590.1 96 12).toInt := by rw [g665, wI_at (by decide)]
                                    have s670 : (h664.1 96 13).toInt = (h590.1 96 13).toInt := by rw [g665, wI_at (by decide)]
                                    have s671 : (h664.1 96 9).toInt = (h590.1 96 9).toInt := by rw [g665, wI_at (by decide)]
                                    have s672 : (h664.1 96 11).toInt = (h590.1 96 11).toInt := by rw [g665, wI_at (by decide)]
                                    have s673 : (h664.1 96 10).toInt = 2 := by rw [g665, wI_is]; rfl
                                    refine R_goto 239 rfl rfl ?_
                                    exact R_vret rfl rfl ⟨hI, fr, ⟨by omega, by omega, by omega, by omega, by omega, by omega, trivial⟩, rfl⟩
                                  · exfalso; omega
                                · show RUN d_X9_advance 162 [(1, .inl x470), (0, .inr (.inr (.inl 96)))] [.inl x650] h590 _
                                  refine N_if_eq (a := x650.toInt) 206 rfl rfl rfl (fun c674 => ?_) (fun c674 => ?_)
                                  · exfalso; omega
                                  · refine R_aload_n (k := 0) rfl rfl rfl ?_
                                    refine R_ldc_i (x := 99999) rfl kt_9_166 ?_
                                    refine R_bipush 10 rfl rfl ?_
                                    refine R_aload_n (k := 0) rfl rfl rfl ?_
                                    refine R_getf_i (j := 11) rfl ft_9_163 sh_96 rfl ?_
                                    have b675 := i_rng (h590.1 96 11)
                                    refine R_imul rfl ?_
                                    refine N_any (fun x676 => ?_)
                                    refine R_aload_n (k := 0) rfl rfl rfl ?_
                                    refine R_aload_n (k := 0) rfl rfl rfl ?_
                                    refine R_getf_i (j := 8) rfl ft_9_142 sh_96 rfl ?_
                                    refine R_callV (v := .inr (.inr (.inl 96))) (As := [.inl (h590.1 96 8)]) (rest := [.inl x676, .inl 99999, .inr (.inr (.inl 96))]) rfl mt_9_i145 pp_X9_see (by decide) rfl rfl rfl (Nat.le_of_ble_eq_true rfl) (Nat.le_of_ble_eq_true rfl) ((g_X9_see h590 hI (h590.1 96 8) (by omega)).mono (fun r677 h678 p679 => ?_))
                                    obtain ⟨rfl, x681, rfl, (q682 | q682), zq680, -⟩ := p679
                                    · show RUN d_X9_advance 183 [(1, .inl x470), (0, .inr (.inr (.inl 96)))] [.inl x681, .inl x676, .inl 99999, .inr (.inr (.inl 96))] h590 _
                                      have b683 := i_rng x676
                                      refine R_iadd rfl ?_
                                      refine N_any (fun x684 => ?_)
                                      refine R_bipush 48 rfl rfl ?_
                                      have b685 := i_rng x684
                                      refine R_isub rfl ?_
                                      refine N_any (fun x686 => ?_)
                                      refine N_min (a := 99999) (b := x686.toInt) rfl mt_9_i167 (by decide) rfl ⟨by decide, by decide, Nat.le_of_ble_eq_true rfl⟩ (fun x687 q688 => ?_)
                                      refine K_putf (j := 11) (lo := (-2147483648)) (hi' := 2147483647) rfl ft_9_163 sh_96 rfl hI (by decide) rfl (i_rng _) fr (by decide) (fun h689 g690 hI fr => ?_)
                                      have fl591 : FR [96] h578 h689 := by rw [g690]; exact FR_wI _ _ fl591 (by decide)
                                      have fl8 : FR [96] h h689 := by rw [g690]; exact FR_wI _ _ fl8 (by decide)
                                      have s691 : (h689.1 96 7).toInt = (h590.1 96 7).toInt := by rw [g690, wI_at (by decide)]
                                      have s692 : (h689.1 96 5).toInt = (h590.1 96 5).toInt := by rw [g690, wI_at (by decide)]
                                      have s693 : (h689.1 96 8).toInt = (h590.1 96 8).toInt := by rw [g690, wI_at (by decide)]
                                      have s694 : (h689.1 96 12).toInt = (h590.1 96 12).toInt := by rw [g690, wI_at (by decide)]
                                      have s695 : (h689.1 96 13).toInt = (h590.1 96 13).toInt := by rw [g690, wI_at (by decide)]
                                      have s696 : (h689.1 96 10).toInt = (h590.1 96 10).toInt := by rw [g690, wI_at (by decide)]
                                      have s697 : (h689.1 96 9).toInt = (h590.1 96 9).toInt := by rw [g690, wI_at (by decide)]
                                      have s698 : (h689.1 96 11).toInt = x687.toInt := by rw [g690, wI_is]
                                      refine R_aload_n (k := 0) rfl rfl rfl ?_
                                      refine R_dup_r rfl ?_
                                      refine R_getf_i (j := 8) rfl ft_9_142 sh_96 rfl ?_
                                      refine R_iconst 1 rfl rfl ?_
                                      refine N_iadd (a := (h689.1 96 8).toInt) (b := 1) rfl rfl (by decide) (by omega) (fun x699 q700 => ?_)
                                      refine K_putf (j := 8) (lo := 0) (hi' := 500) rfl ft_9_142 sh_96 rfl hI (by decide) rfl (by omega) fr (by decide) (fun h701 g702 hI fr => ?_)
                                      have fl591 : FR [96] h578 h701 := by rw [g702]; exact FR_wI _ _ fl591 (by decide)
                                      have fl8 : FR [96] h h701 := by rw [g702]; exact FR_wI _ _ fl8 (by decide)
                                      have s703 : (h701.1 96 7).toInt = (h689.1 96 7).toInt := by rw [g702, wI_at (by decide)]
                                      have s704 : (h701.1 96 5).toInt = (h689.1 96 5).toInt := by rw [g702, wI_at (by decide)]
                                      have s705 : (h701.1 96 12).toInt = (h689.1 96 12).toInt := by rw [g702, wI_at (by decide)]
                                      have s706 : (h701.1 96 13).toInt = (h689.1 96 13).toInt := by rw [g702, wI_at (by decide)]
                                      have s707 : (h701.1 96 10).toInt = (h689.1 96 10).toInt := by rw [g702, wI_at (by decide)]
                                      have s708 : (h701.1 96 9).toInt = (h689.1 96 9).toInt := by rw [g702, wI_at (by decide)]
                                      have s709 : (h701.1 96 11).toInt = (h689.1 96 11).toInt := by rw [g702, wI_at (by decide)]
                                      have s710 : (h701.1 96 8).toInt = x699.toInt := by rw [g702, wI_is]
                                      refine R_goto 144 rfl rfl ?_
                                      exact RUN_weak (psub_cons rfl (psub_cons rfl (psub_nil _))) (ih592 h701 hI fr fl591 (by omega) (by omega) (by omega) (by omega) (by omega) (by omega) trivial (by omega) (by omega) (by omega) (by omega) (by omega) (by omega) (by omega) (by omega) (by omega) (by rw [g702, seeF_w (by decide), g690, seeF_w (by decide)]; exact m612) (Or.inl (by omega)) (by omega) (by omega))
                                    · show RUN d_X9_advance 183 [(1, .inl x470), (0, .inr (.inr (.inl 96)))] [.inl x681, .inl x676, .inl 99999, .inr (.inr (.inl 96))] h590 _
                                      have b711 := i_rng x676
                                      refine R_iadd rfl ?_
                                      refine N_any (fun x712 => ?_)
                                      refine R_bipush 48 rfl rfl ?_
                                      have b713 := i_rng x712
                                      refine R_isub rfl ?_
                                      refine N_any (fun x714 => ?_)
                                      refine N_min (a := 99999) (b := x714.toInt) rfl mt_9_i167 (by decide) rfl ⟨by decide, by decide, Nat.le_of_ble_eq_true rfl⟩ (fun x715 q716 => ?_)
                                      refine K_putf (j := 11) (lo := (-2147483648)) (hi' := 2147483647) rfl ft_9_163 sh_96 rfl hI (by decide) rfl (i_rng _) fr (by decide) (fun h717 g718 hI fr => ?_)
                                      have fl591 : FR [96] h578 h717 := by rw [g718]; exact FR_wI _ _ fl591 (by decide)
                                      have fl8 : FR [96] h h717 := by rw [g718]; exact FR_wI _ _ fl8 (by decide)
                                      have s719 : (h717.1 96 7).toInt = (h590.1 96 7).toInt := by rw [g718, wI_at (by decide)]
                                      have s720 : (h717.1 96 5).toInt = (h590.1 96 5).toInt := by rw [g718, wI_at (by decide)]
                                      have s721 : (h717.1 96 8).toInt = (h590.1 96 8).toInt := by rw [g718, wI_at (by decide)]
                                      have s722 : (h717.1 96 12).toInt = (h590.1 96 12).toInt := by rw [g718, wI_at (by decide)]
                                      have s723 : (h717.1 96 13).toInt = (h590.1 96 13).toInt := by rw [g718, wI_at (by decide)]
                                      have s724 : (h717.1 96 10).toInt = (h590.1 96 10).toInt := by rw [g718, wI_at (by decide)]
                                      have s725 : (h717.1 96 9).toInt = (h590.1 96 9).toInt := by rw [g718, wI_at (by decide)]
                                      have s726 : (h717.1 96 11).toInt = x715.toInt := by rw [g718, wI_is]
                                      refine R_aload_n (k := 0) rfl rfl rfl ?_
                                      refine R_dup_r rfl ?_
                                      refine R_getf_i (j := 8) rfl ft_9_142 sh_96 rfl ?_
                                      refine R_iconst 1 rfl rfl ?_
                                      refine N_iadd (a := (h717.1 96 8).toInt) (b := 1) rfl rfl (by decide) (by omega) (fun x727 q728 => ?_)
                                      refine K_putf (j := 8) (lo := 0) (hi' := 500) rfl ft_9_142 sh_96 rfl hI (by decide) rfl (by omega) fr (by decide) (fun h729 g730 hI fr => ?_)
                                      have fl591 : FR [96] h578 h729 := by rw [g730]; exact FR_wI _ _ fl591 (by decide)
                                      have fl8 : FR [96] h h729 := by rw [g730]; exact FR_wI _ _ fl8 (by decide)
                                      have s731 : (h729.1 96 7).toInt = (h717.1 96 7).toInt := by rw [g730, wI_at (by decide)]
                                      have s732 : (h729.1 96 5).toInt = (h717.1 96 5).toInt := by rw [g730, wI_at (by decide)]
                                      have s733 : (h729.1 96 12).toInt = (h717.1 96 12).toInt := by rw [g730, wI_at (by decide)]
                                      have s734 : (h729.1 96 13).toInt = (h717.1 96 13).toInt := by rw [g730, wI_at (by decide)]
                                      have s735 : (h729.1 96 10).toInt = (h717.1 96 10).toInt := by rw [g730, wI_at (by decide)]
                                      have s736 : (h729.1 96 9).toInt = (h717.1 96 9).toInt := by rw [g730, wI_at (by decide)]
                                      have s737 : (h729.1 96 11).toInt = (h717.1 96 11).toInt := by rw [g730, wI_at (by decide)]
                                      have s738 : (h729.1 96 8).toInt = x727.toInt := by rw [g730, wI_is]
                                      refine R_goto 144 rfl rfl ?_
                                      exact RUN_weak (psub_cons rfl (psub_cons rfl (psub_nil _))) (ih592 h729 hI fr fl591 (by omega) (by omega) (by omega) (by omega) (by omega) (by omega) trivial (by omega) (by omega) (by omega) (by omega) (by omega) (by omega) (by omega) (by omega) (by omega) (by rw [g730, seeF_w (by decide), g718, seeF_w (by decide)]; exact m612) (Or.inl (by omega)) (by omega) (by omega))
                          exact lp589 _ h578 hI fr (FR.rf _ _) rfl rfl rfl rfl rfl (by omega) trivial (by omega) (by omega) (by omega) (by omega) (by omega) (by omega) (by omega) (by omega) (by omega) (by rw [g579, seeF_w (by decide)]; exact sS485) (Or.inr (by rw [g579, wI_at (by decide)])) (by omega) (Nat.lt_succ_self _)
                    · exfalso; omega
                  · show RUN d_X9_advance 80 [(1, .inl x470), (0, .inr (.inr (.inl 96)))] [.inl x495] h456 _
                    refine N_if_eq (a := x495.toInt) 125 rfl rfl rfl (fun c739 => ?_) (fun c739 => ?_)
                    · refine R_iload_n (k := 1) rfl rfl rfl ?_
                      refine N_i2l rfl (fun w740 q741 => ?_)
                      refine R_ldc2 (x := 48) rfl kt_9_159 ?_
                      refine R_ldc2 (x := 57) rfl kt_9_161 ?_
                      have k742 : (48 : Int64).toInt = 48 := by decide
                      have k743 : (57 : Int64).toInt = 57 := by decide
                      refine R_callS (As := [.inr (.inl w740), .inr (.inl 48), .inr (.inl 57)]) (rest := []) rfl mt_9_i125 (by decide) pp_X9_in (by decide) rfl rfl (Nat.le_of_ble_eq_true rfl) (Nat.le_of_ble_eq_true rfl) ((k_X9_in h456 hI w740 (48 : Int64) (57 : Int64)).mono (fun r744 h745 p746 => ?_))
                      obtain ⟨rfl, x747, rfl, q748 | q748 | q748⟩ := p746
                      · exfalso; omega
                      · show RUN d_X9_advance 136 [(1, .inl x470), (0, .inr (.inr (.inl 96)))] [.inl x747] h456 _
                        refine N_if_eq (a := x747.toInt) 214 rfl rfl rfl (fun c749 => ?_) (fun c749 => ?_)
                        · refine R_aload_n (k := 0) rfl rfl rfl ?_
                          refine R_iload_n (k := 1) rfl rfl rfl ?_
                          refine R_bipush 59 rfl rfl ?_
                          refine N_icmp_ne (a := x470.toInt) (b := 59) 225 rfl rfl rfl (by decide) (fun c750 => ?_) (fun c750 => ?_)
                          · refine R_iconst 4 rfl rfl ?_
                            refine K_putf (j := 10) (lo := (-2147483648)) (hi' := 2147483647) rfl ft_9_152 sh_96 rfl hI (by decide) rfl (by decide) fr (by decide) (fun h751 g752 hI fr => ?_)
                            have fl8 : FR [96] h h751 := by rw [g752]; exact FR_wI _ _ fl8 (by decide)
                            have s753 : (h751.1 96 7).toInt = (h456.1 96 7).toInt := by rw [g752, wI_at (by decide)]
                            have s754 : (h751.1 96 5).toInt = (h456.1 96 5).toInt := by rw [g752, wI_at (by decide)]
                            have s755 : (h751.1 96 8).toInt = (h456.1 96 8).toInt := by rw [g752, wI_at (by decide)]
                            have s756 : (h751.1 96 12).toInt = (h456.1 96 12).toInt := by rw [g752, wI_at (by decide)]
                            have s757 : (h751.1 96 13).toInt = (h456.1 96 13).toInt := by rw [g752, wI_at (by decide)]
                            have s758 : (h751.1 96 11).toInt = (h456.1 96 11).toInt := by rw [g752, wI_at (by decide)]
                            have s759 : (h751.1 96 9).toInt = (h456.1 96 9).toInt := by rw [g752, wI_at (by decide)]
                            have s760 : (h751.1 96 10).toInt = 4 := by rw [g752, wI_is]; rfl
                            refine R_aload_n (k := 0) rfl rfl rfl ?_
                            refine R_dup_r rfl ?_
                            refine R_getf_i (j := 8) rfl ft_9_142 sh_96 rfl ?_
                            refine R_iconst 1 rfl rfl ?_
                            refine N_iadd (a := (h751.1 96 8).toInt) (b := 1) rfl rfl (by decide) (by omega) (fun x761 q762 => ?_)
                            refine K_putf (j := 8) (lo := 0) (hi' := 500) rfl ft_9_142 sh_96 rfl hI (by decide) rfl (by omega) fr (by decide) (fun h763 g764 hI fr => ?_)
                            have fl8 : FR [96] h h763 := by rw [g764]; exact FR_wI _ _ fl8 (by decide)
                            have s765 : (h763.1 96 7).toInt = (h751.1 96 7).toInt := by rw [g764, wI_at (by decide)]
                            have s766 : (h763.1 96 5).toInt = (h751.1 96 5).toInt := by rw [g764, wI_at (by decide)]
                            have s767 : (h763.1 96 12).toInt = (h751.1 96 12).toInt := by rw [g764, wI_at (by decide)]
                            have s768 : (h763.1 96 13).toInt = (h751.1 96 13).toInt := by rw [g764, wI_at (by decide)]
                            have s769 : (h763.1 96 11).toInt = (h751.1 96 11).toInt := by rw [g764, wI_at (by decide)]
                            have s770 : (h763.1 96 9).toInt = (h751.1 96 9).toInt := by rw [g764, wI_at (by decide)]
                            have s771 : (h763.1 96 10).toInt = (h751.1 96 10).toInt := by rw [g764, wI_at (by decide)]
                            have s772 : (h763.1 96 8).toInt = x761.toInt := by rw [g764, wI_is]
                            exact R_vret rfl rfl ⟨hI, fr, ⟨by omega, by omega, by omega, by omega, by omega, by omega, trivial⟩, rfl⟩
                          · exfalso; omega
                        · exfalso; omega
                      · exfalso; omega
                    · exfalso; omega
                  · show RUN d_X9_advance 80 [(1, .inl x470), (0, .inr (.inr (.inl 96)))] [.inl x495] h456 _
                    refine N_if_eq (a := x495.toInt) 125 rfl rfl rfl (fun c773 => ?_) (fun c773 => ?_)
                    · exfalso; omega
                    · have lp775 : ∀ (n774 : Nat) (h776 : PH), INV h776 → FR [96] h h776 → FR [96] h456 h776 → (h776.1 96 7).toInt = (h456.1 96 7).toInt → (h776.1 96 5).toInt = (h456.1 96 5).toInt → (h776.1 96 12).toInt = (h456.1 96 12).toInt → (h776.1 96 13).toInt = (h456.1 96 13).toInt → (h776.1 96 11).toInt = (h456.1 96 11).toInt → (h776.1 96 9).toInt = (h456.1 96 9).toInt → 2 ≤ (h776.1 96 8).toInt ∧ (h776.1 96 8).toInt ≤ 492 → True → (h776.1 96 8).toInt ≤ x470.toInt + 391 → (h776.1 96 8).toInt ≤ (h456.1 96 7).toInt + (-3) → (h456.1 96 7).toInt ≤ (h776.1 96 8).toInt + (-2) → (h776.1 96 8).toInt ≤ (h456.1 96 5).toInt + 488 → (h776.1 96 8).toInt ≤ (h456.1 96 12).toInt + 488 → (h776.1 96 8).toInt ≤ (h456.1 96 9).toInt + (-3) → (h456.1 96 9).toInt ≤ (h776.1 96 8).toInt + (-3) → (seeF h776 = seeF h) → ((h456.1 96 8).toInt + 1 ≤ (h776.1 96 8).toInt ∨ h776.1 96 8 = h456.1 96 8) → ((h456.1 96 8).toInt ≤ (h776.1 96 8).toInt) → (492 - (h776.1 96 8).toInt).toNat < n774 → RUN d_X9_advance 83 [(1, .inl x470), (0, .inr (.inr (.inl 96)))] [] h776 (qg_X9_advance h) := by
                        intro n774
                        induction n774 with
                        | zero => intro h776 m779 m780 m781 m782 m783 m784 m785 m786 m787 m788 m789 m790 m791 m792 m793 m794 m795 m796 m797 m798 m799 hz; exact absurd hz (Nat.not_lt_zero _)
                        | succ n774 ih778 =>
                          intro h776 hI fr fl777 m782 m783 m784 m785 m786 m787 m788 m789 m790 m791 m792 m793 m794 m795 m796 m797 m798 m799 hz
                          have fl8 : FR [96] h h776 := fl8.trans fl777 (by decide)
                          refine R_aload_n (k := 0) rfl rfl rfl ?_
                          refine R_aload_n (k := 0) rfl rfl rfl ?_
                          refine R_getf_i (j := 8) rfl ft_9_142 sh_96 rfl ?_
                          refine R_callV (v := .inr (.inr (.inl 96))) (As := [.inl (h776.1 96 8)]) (rest := []) rfl mt_9_i145 pp_X9_see (by decide) rfl rfl rfl (Nat.le_of_ble_eq_true rfl) (Nat.le_of_ble_eq_true rfl) ((g_X9_see h776 hI (h776.1 96 8) (by omega)).mono (fun r800 h801 p802 => ?_))
                          obtain ⟨rfl, x804, rfl, (q805 | q805), zq803, -⟩ := p802
                          · show RUN d_X9_advance 91 [(1, .inl x470), (0, .inr (.inr (.inl 96)))] [.inl x804] h776 _
                            have sy806 : (h456.1 96 8).toInt + 1 ≤ (h776.1 96 8).toInt ∨ x804.toInt = x470.toInt := Or.elim m798 Or.inl (fun c => Or.inr (by rw [zq803, m797, c, ← sz486]))
                            refine N_i2l rfl (fun w807 q808 => ?_)
                            refine R_ldc2 (x := 97) rfl kt_9_155 ?_
                            refine R_ldc2 (x := 122) rfl kt_9_157 ?_
                            have k809 : (97 : Int64).toInt = 97 := by decide
                            have k810 : (122 : Int64).toInt = 122 := by decide
                            refine R_callS (As := [.inr (.inl w807), .inr (.inl 97), .inr (.inl 122)]) (rest := []) rfl mt_9_i125 (by decide) pp_X9_in (by decide) rfl rfl (Nat.le_of_ble_eq_true rfl) (Nat.le_of_ble_eq_true rfl) ((k_X9_in h776 hI w807 (97 : Int64) (122 : Int64)).mono (fun r811 h812 p813 => ?_))
                            obtain ⟨rfl, x814, rfl, q815 | q815 | q815⟩ := p813
                            · show RUN d_X9_advance 101 [(1, .inl x470), (0, .inr (.inr (.inl 96)))] [.inl x814] h776 _
                              refine N_if_eq (a := x814.toInt) 117 rfl rfl rfl (fun c816 => ?_) (fun c816 => ?_)
                              · refine R_aload_n (k := 0) rfl rfl rfl ?_
                                refine R_iconst 1 rfl rfl ?_
                                refine K_putf (j := 10) (lo := (-2147483648)) (hi' := 2147483647) rfl ft_9_152 sh_96 rfl hI (by decide) rfl (by decide) fr (by decide) (fun h817 g818 hI fr => ?_)
                                have fl777 : FR [96] h456 h817 := by rw [g818]; exact FR_wI _ _ fl777 (by decide)
                                have fl8 : FR [96] h h817 := by rw [g818]; exact FR_wI _ _ fl8 (by decide)
                                have s819 : (h817.1 96 7).toInt = (h776.1 96 7).toInt := by rw [g818, wI_at (by decide)]
                                have s820 : (h817.1 96 5).toInt = (h776.1 96 5).toInt := by rw [g818, wI_at (by decide)]
                                have s821 : (h817.1 96 8).toInt = (h776.1 96 8).toInt := by rw [g818, wI_at (by decide)]
                                have s822 : (h817.1 96 12).toInt = (h776.1 96 12).toInt := by rw [g818, wI_at (by decide)]
                                have s823 : (h817.1 96 13).toInt = (h776.1 96 13).toInt := by rw [g818, wI_at (by decide)]
                                have s824 : (h817.1 96 11).toInt = (h776.1 96 11).toInt := by rw [g818, wI_at (by decide)]
                                have s825 : (h817.1 96 9).toInt = (h776.1 96 9).toInt := by rw [g818, wI_at (by decide)]
                                have s826 : (h817.1 96 10).toInt = 1 := by rw [g818, wI_is]; rfl
                                refine R_goto 239 rfl rfl ?_
                                exact R_vret rfl rfl ⟨hI, fr, ⟨by omega, by omega, by omega, by omega, by omega, by omega, trivial⟩, rfl⟩
                              · exfalso; omega
                            · exfalso; omega
                            · exfalso; omega
                          · show RUN d_X9_advance 91 [(1, .inl x470), (0, .inr (.inr (.inl 96)))] [.inl x804] h776 _
                            have sy827 : (h456.1 96 8).toInt + 1 ≤ (h776.1 96 8).toInt ∨ x804.toInt = x470.toInt := Or.elim m798 Or.inl (fun c => Or.inr (by rw [zq803, m797, c, ← sz486]))
                            refine N_i2l rfl (fun w828 q829 => ?_)
                            refine R_ldc2 (x := 97) rfl kt_9_155 ?_
                            refine R_ldc2 (x := 122) rfl kt_9_157 ?_
                            have k830 : (97 : Int64).toInt = 97 := by decide
                            have k831 : (122 : Int64).toInt = 122 := by decide
                            refine R_callS (As := [.inr (.inl w828), .inr (.inl 97), .inr (.inl 122)]) (rest := []) rfl mt_9_i125 (by decide) pp_X9_in (by decide) rfl rfl (Nat.le_of_ble_eq_true rfl) (Nat.le_of_ble_eq_true rfl) ((k_X9_in h776 hI w828 (97 : Int64) (122 : Int64)).mono (fun r832 h833 p834 => ?_))
                            obtain ⟨rfl, x835, rfl, q836 | q836 | q836⟩ := p834
                            · show RUN d_X9_advance 101 [(1, .inl x470), (0, .inr (.inr (.inl 96)))] [.inl x835] h776 _
                              refine N_if_eq (a := x835.toInt) 117 rfl rfl rfl (fun c837 => ?_) (fun c837 => ?_)
                              · refine R_aload_n (k := 0) rfl rfl rfl ?_
                                refine R_iconst 1 rfl rfl ?_
                                refine K_putf (j := 10) (lo := (-2147483648)) (hi' := 2147483647) rfl ft_9_152 sh_96 rfl hI (by decide) rfl (by decide) fr (by decide) (fun h838 g839 hI fr => ?_)
                                have fl777 : FR [96] h456 h838 := by rw [g839]; exact FR_wI _ _ fl777 (by decide)
                                have fl8 : FR [96] h h838 := by rw [g839]; exact FR_wI _ _ fl8 (by decide)
                                have s840 : (h838.1 96 7).toInt = (h776.1 96 7).toInt := by rw [g839, wI_at (by decide)]
                                have s841 : (h838.1 96 5).toInt = (h776.1 96 5).toInt := by rw [g839, wI_at (by decide)]
                                have s842 : (h838.1 96 8).toInt = (h776.1 96 8).toInt := by rw [g839, wI_at (by decide)]
                                have s843 : (h838.1 96 12).toInt = (h776.1 96 12).toInt := by rw [g839, wI_at (by decide)]
                                have s844 : (h838.1 96 13).toInt = (h776.1 96 13).toInt := by rw [g839, wI_at (by decide)]
                                have s845 : (h838.1 96 11).toInt = (h776.1 96 11).toInt := by rw [g839, wI_at (by decide)]
                                have s846 : (h838.1 96 9).toInt = (h776.1 96 9).toInt := by rw [g839, wI_at (by decide)]
                                have s847 : (h838.1 96 10).toInt = 1 := by rw [g839, wI_is]; rfl
                                refine R_goto 239 rfl rfl ?_
                                exact R_vret rfl rfl ⟨hI, fr, ⟨by omega, by omega, by omega, by omega, by omega, by omega, trivial⟩, rfl⟩
                              · exfalso; omega
                            · show RUN d_X9_advance 101 [(1, .inl x470), (0, .inr (.inr (.inl 96)))] [.inl x835] h776 _
                              refine N_if_eq (a := x835.toInt) 117 rfl rfl rfl (fun c848 => ?_) (fun c848 => ?_)
                              · refine R_aload_n (k := 0) rfl rfl rfl ?_
                                refine R_iconst 1 rfl rfl ?_
                                refine K_putf (j := 10) (lo := (-2147483648)) (hi' := 2147483647) rfl ft_9_152 sh_96 rfl hI (by decide) rfl (by decide) fr (by decide) (fun h849 g850 hI fr => ?_)
                                have fl777 : FR [96] h456 h849 := by rw [g850]; exact FR_wI _ _ fl777 (by decide)
                                have fl8 : FR [96] h h849 := by rw [g850]; exact FR_wI _ _ fl8 (by decide)
                                have s851 : (h849.1 96 7).toInt = (h776.1 96 7).toInt := by rw [g850, wI_at (by decide)]
                                have s852 : (h849.1 96 5).toInt = (h776.1 96 5).toInt := by rw [g850, wI_at (by decide)]
                                have s853 : (h849.1 96 8).toInt = (h776.1 96 8).toInt := by rw [g850, wI_at (by decide)]
                                have s854 : (h849.1 96 12).toInt = (h776.1 96 12).toInt := by rw [g850, wI_at (by decide)]
                                have s855 : (h849.1 96 13).toInt = (h776.1 96 13).toInt := by rw [g850, wI_at (by decide)]
                                have s856 : (h849.1 96 11).toInt = (h776.1 96 11).toInt := by rw [g850, wI_at (by decide)]
                                have s857 : (h849.1 96 9).toInt = (h776.1 96 9).toInt := by rw [g850, wI_at (by decide)]
                                have s858 : (h849.1 96 10).toInt = 1 := by rw [g850, wI_is]; rfl
                                refine R_goto 239 rfl rfl ?_
                                exact R_vret rfl rfl ⟨hI, fr, ⟨by omega, by omega, by omega, by omega, by omega, by omega, trivial⟩, rfl⟩
                              · exfalso; omega
                            · show RUN d_X9_advance 101 [(1, .inl x470), (0, .inr (.inr (.inl 96)))] [.inl x835] h776 _
                              refine N_if_eq (a := x835.toInt) 117 rfl rfl rfl (fun c859 => ?_) (fun c859 => ?_)
                              · exfalso; omega
                              · refine R_aload_n (k := 0) rfl rfl rfl ?_
                                refine R_dup_r rfl ?_
                                refine R_getf_i (j := 8) rfl ft_9_142 sh_96 rfl ?_
                                refine R_iconst 1 rfl rfl ?_
                                refine N_iadd (a := (h776.1 96 8).toInt) (b := 1) rfl rfl (by decide) (by omega) (fun x860 q861 => ?_)
                                refine K_putf (j := 8) (lo := 0) (hi' := 500) rfl ft_9_142 sh_96 rfl hI (by decide) rfl (by omega) fr (by decide) (fun h862 g863 hI fr => ?_)
                                have fl777 : FR [96] h456 h862 := by rw [g863]; exact FR_wI _ _ fl777 (by decide)
                                have fl8 : FR [96] h h862 := by rw [g863]; exact FR_wI _ _ fl8 (by decide)
                                have s864 : (h862.1 96 7).toInt = (h776.1 96 7).toInt := by rw [g863, wI_at (by decide)]
                                have s865 : (h862.1 96 5).toInt = (h776.1 96 5).toInt := by rw [g863, wI_at (by decide)]
                                have s866 : (h862.1 96 12).toInt = (h776.1 96 12).toInt := by rw [g863, wI_at (by decide)]
                                have s867 : (h862.1 96 13).toInt = (h776.1 96 13).toInt := by rw [g863, wI_at (by decide)]
                                have s868 : (h862.1 96 10).toInt = (h776.1 96 10).toInt := by rw [g863, wI_at (by decide)]
                                have s869 : (h862.1 96 11).toInt = (h776.1 96 11).toInt := by rw [g863, wI_at (by decide)]
                                have s870 : (h862.1 96 9).toInt = (h776.1 96 9).toInt := by rw [g863, wI_at (by decide)]
                                have s871 : (h862.1 96 8).toInt = x860.toInt := by rw [g863, wI_is]
                                refine R_goto 83 rfl rfl ?_
                                exact RUN_weak (psub_cons rfl (psub_cons rfl (psub_nil _))) (ih778 h862 hI fr fl777 (by omega) (by omega) (by omega) (by omega) (by omega) (by omega) (by omega) trivial (by omega) (by omega) (by omega) (by omega) (by omega) (by omega) (by omega) (by rw [g863, seeF_w (by decide)]; exact m797) (Or.inl (by omega)) (by omega) (by omega))
                      exact lp775 _ h456 hI fr (FR.rf _ _) rfl rfl rfl rfl rfl rfl (by omega) trivial (by omega) (by omega) (by omega) (by omega) (by omega) (by omega) (by omega) (sS485) (Or.inr rfl) (by omega) (Nat.lt_succ_self _)
                · exfalso; omega
            · refine R_aload_n (k := 0) rfl rfl rfl ?_
              refine R_dup_r rfl ?_
              refine R_getf_i (j := 8) rfl ft_9_142 sh_96 rfl ?_
              refine R_iconst 1 rfl rfl ?_
              refine N_iadd (a := (h7.1 96 8).toInt) (b := 1) rfl rfl (by decide) (by omega) (fun x872 q873 => ?_)
              refine K_putf (j := 8) (lo := 0) (hi' := 500) rfl ft_9_142 sh_96 rfl hI (by decide) rfl (by omega) fr (by decide) (fun h874 g875 hI fr => ?_)
              have fl8 : FR [96] h h874 := by rw [g875]; exact FR_wI _ _ fl8 (by decide)
              have s876 : (h874.1 96 7).toInt = (h7.1 96 7).toInt := by rw [g875, wI_at (by decide)]
              have s877 : (h874.1 96 5).toInt = (h7.1 96 5).toInt := by rw [g875, wI_at (by decide)]
              have s878 : (h874.1 96 12).toInt = (h7.1 96 12).toInt := by rw [g875, wI_at (by decide)]
              have s879 : (h874.1 96 13).toInt = (h7.1 96 13).toInt := by rw [g875, wI_at (by decide)]
              have s880 : (h874.1 96 10).toInt = (h7.1 96 10).toInt := by rw [g875, wI_at (by decide)]
              have s881 : (h874.1 96 11).toInt = (h7.1 96 11).toInt := by rw [g875, wI_at (by decide)]
              have s882 : (h874.1 96 8).toInt = x872.toInt := by rw [g875, wI_is]
              refine R_goto 0 rfl rfl ?_
              exact RUN_weak (psub_cons rfl (psub_nil _)) (ih9 h874 hI fr fl8 (by omega) (by omega) (by omega) (by omega) (by omega) trivial trivial (by rw [g875, seeF_w (by decide)]; exact m20) (by omega) (by omega))
      · show RUN d_X9_advance 8 [(0, .inr (.inr (.inl 96)))] [.inl x26] h7 _
        refine R_bipush 32 rfl rfl ?_
        refine N_icmp_eq (a := x26.toInt) (b := 32) 26 rfl rfl rfl (by decide) (fun c883 => ?_) (fun c883 => ?_)
        · refine R_aload_n (k := 0) rfl rfl rfl ?_
          refine R_dup_r rfl ?_
          refine R_getf_i (j := 8) rfl ft_9_142 sh_96 rfl ?_
          refine R_iconst 1 rfl rfl ?_
          refine N_iadd (a := (h7.1 96 8).toInt) (b := 1) rfl rfl (by decide) (by omega) (fun x884 q885 => ?_)
          refine K_putf (j := 8) (lo := 0) (hi' := 500) rfl ft_9_142 sh_96 rfl hI (by decide) rfl (by omega) fr (by decide) (fun h886 g887 hI fr => ?_)
          have fl8 : FR [96] h h886 := by rw [g887]; exact FR_wI _ _ fl8 (by decide)
          have s888 : (h886.1 96 7).toInt = (h7.1 96 7).toInt := by rw [g887, wI_at (by decide)]
          have s889 : (h886.1 96 5).toInt = (h7.1 96 5).toInt := by rw [g887, wI_at (by decide)]
          have s890 : (h886.1 96 12).toInt = (h7.1 96 12).toInt := by rw [g887, wI_at (by decide)]
          have s891 : (h886.1 96 13).toInt = (h7.1 96 13).toInt := by rw [g887, wI_at (by decide)]
          have s892 : (h886.1 96 10).toInt = (h7.1 96 10).toInt := by rw [g887, wI_at (by decide)]
          have s893 : (h886.1 96 11).toInt = (h7.1 96 11).toInt := by rw [g887, wI_at (by decide)]
          have s894 : (h886.1 96 8).toInt = x884.toInt := by rw [g887, wI_is]
          refine R_goto 0 rfl rfl ?_
          exact RUN_weak (psub_cons rfl (psub_nil _)) (ih9 h886 hI fr fl8 (by omega) (by omega) (by omega) (by omega) (by omega) trivial trivial (by rw [g887, seeF_w (by decide)]; exact m20) (by omega) (by omega))
        · refine R_aload_n (k := 0) rfl rfl rfl ?_
          refine R_aload_n (k := 0) rfl rfl rfl ?_
          refine R_getf_i (j := 8) rfl ft_9_142 sh_96 rfl ?_
          refine R_callV (v := .inr (.inr (.inl 96))) (As := [.inl (h7.1 96 8)]) (rest := []) rfl mt_9_i145 pp_X9_see (by decide) rfl rfl rfl (Nat.le_of_ble_eq_true rfl) (Nat.le_of_ble_eq_true rfl) ((g_X9_see h7 hI (h7.1 96 8) (by omega)).mono (fun r895 h896 p897 => ?_))
          obtain ⟨rfl, x899, rfl, (q900 | q900), zq898, -⟩ := p897
          · show RUN d_X9_advance 21 [(0, .inr (.inr (.inl 96)))] [.inl x899] h7 _
            refine R_bipush 10 rfl rfl ?_
            refine N_icmp_ne (a := x899.toInt) (b := 10) 39 rfl rfl rfl (by decide) (fun c901 => ?_) (fun c901 => ?_)
            · refine R_aload_n (k := 0) rfl rfl rfl ?_
              refine R_aload_n (k := 0) rfl rfl rfl ?_
              refine R_getf_i (j := 8) rfl ft_9_142 sh_96 rfl ?_
              refine K_putf (j := 9) (lo := 0) (hi' := 500) rfl ft_9_149 sh_96 rfl hI (by decide) rfl (by omega) fr (by decide) (fun h902 g903 hI fr => ?_)
              have fl8 : FR [96] h h902 := by rw [g903]; exact FR_wI _ _ fl8 (by decide)
              have s904 : (h902.1 96 7).toInt = (h7.1 96 7).toInt := by rw [g903, wI_at (by decide)]
              have s905 : (h902.1 96 5).toInt = (h7.1 96 5).toInt := by rw [g903, wI_at (by decide)]
              have s906 : (h902.1 96 8).toInt = (h7.1 96 8).toInt := by rw [g903, wI_at (by decide)]
              have s907 : (h902.1 96 12).toInt = (h7.1 96 12).toInt := by rw [g903, wI_at (by decide)]
              have s908 : (h902.1 96 13).toInt = (h7.1 96 13).toInt := by rw [g903, wI_at (by decide)]
              have s909 : (h902.1 96 10).toInt = (h7.1 96 10).toInt := by rw [g903, wI_at (by decide)]
              have s910 : (h902.1 96 11).toInt = (h7.1 96 11).toInt := by rw [g903, wI_at (by decide)]
              have s911 : (h902.1 96 9).toInt = (h7.1 96 8).toInt := by rw [g903, wI_is]
              refine R_aload_n (k := 0) rfl rfl rfl ?_
              refine R_aload_n (k := 0) rfl rfl rfl ?_
              refine R_getf_i (j := 8) rfl ft_9_142 sh_96 rfl ?_
              refine R_callV (v := .inr (.inr (.inl 96))) (As := [.inl (h902.1 96 8)]) (rest := []) rfl mt_9_i145 pp_X9_see (by decide) rfl rfl rfl (Nat.le_of_ble_eq_true rfl) (Nat.le_of_ble_eq_true rfl) ((g_X9_see h902 hI (h902.1 96 8) (by omega)).mono (fun r912 h913 p914 => ?_))
              obtain ⟨rfl, x916, rfl, (q917 | q917), zq915, -⟩ := p914
              · show RUN d_X9_advance 55 [(0, .inr (.inr (.inl 96)))] [.inl x916] h902 _
                refine R_istore_n (k := 1) rfl [(1, .inl x916), (0, .inr (.inr (.inl 96)))] rfl rfl (by decide) ?_
                have sS918 : seeF h902 = seeF h := by rw [g903, seeF_w (by decide)]; exact m20
                have sz919 : x916 = seeF h (h902.1 96 8) := by rw [← sS918]; exact zq915
                refine R_iload_n (k := 1) rfl rfl rfl ?_
                refine R_iconst (-1) rfl rfl ?_
                refine N_icmp_ne (a := x916.toInt) (b := (-1)) 69 rfl rfl rfl (by decide) (fun c920 => ?_) (fun c920 => ?_)
                · exfalso; omega
                · refine R_aload_n (k := 0) rfl rfl rfl ?_
                  refine R_iconst 0 rfl rfl ?_
                  refine K_putf (j := 10) (lo := (-2147483648)) (hi' := 2147483647) rfl ft_9_152 sh_96 rfl hI (by decide) rfl (by decide) fr (by decide) (fun h921 g922 hI fr => ?_)
                  have fl8 : FR [96] h h921 := by rw [g922]; exact FR_wI _ _ fl8 (by decide)
                  have s923 : (h921.1 96 7).toInt = (h902.1 96 7).toInt := by rw [g922, wI_at (by decide)]
                  have s924 : (h921.1 96 5).toInt = (h902.1 96 5).toInt := by rw [g922, wI_at (by decide)]
                  have s925 : (h921.1 96 8).toInt = (h902.1 96 8).toInt := by rw [g922, wI_at (by decide)]
                  have s926 : (h921.1 96 12).toInt = (h902.1 96 12).toInt := by rw [g922, wI_at (by decide)]
                  have s927 : (h921.1 96 13).toInt = (h902.1 96 13).toInt := by rw [g922, wI_at (by decide)]
                  have s928 : (h921.1 96 11).toInt = (h902.1 96 11).toInt := by rw [g922, wI_at (by decide)]
                  have s929 : (h921.1 96 9).toInt = (h902.1 96 9).toInt := by rw [g922, wI_at (by decide)]
                  have s930 : (h921.1 96 10).toInt = 0 := by rw [g922, wI_is]; rfl
                  refine R_goto 239 rfl rfl ?_
                  exact R_vret rfl rfl ⟨hI, fr, ⟨by omega, by omega, by omega, by omega, by omega, by omega, trivial⟩, rfl⟩
              · show RUN d_X9_advance 55 [(0, .inr (.inr (.inl 96)))] [.inl x916] h902 _
                refine R_istore_n (k := 1) rfl [(1, .inl x916), (0, .inr (.inr (.inl 96)))] rfl rfl (by decide) ?_
                have sS931 : seeF h902 = seeF h := by rw [g903, seeF_w (by decide)]; exact m20
                have sz932 : x916 = seeF h (h902.1 96 8) := by rw [← sS931]; exact zq915
                refine R_iload_n (k := 1) rfl rfl rfl ?_
                refine R_iconst (-1) rfl rfl ?_
                refine N_icmp_ne (a := x916.toInt) (b := (-1)) 69 rfl rfl rfl (by decide) (fun c933 => ?_) (fun c933 => ?_)
                · refine R_iload_n (k := 1) rfl rfl rfl ?_
                  refine N_i2l rfl (fun w934 q935 => ?_)
                  refine R_ldc2 (x := 97) rfl kt_9_155 ?_
                  refine R_ldc2 (x := 122) rfl kt_9_157 ?_
                  have k936 : (97 : Int64).toInt = 97 := by decide
                  have k937 : (122 : Int64).toInt = 122 := by decide
                  refine R_callS (As := [.inr (.inl w934), .inr (.inl 97), .inr (.inl 122)]) (rest := []) rfl mt_9_i125 (by decide) pp_X9_in (by decide) rfl rfl (Nat.le_of_ble_eq_true rfl) (Nat.le_of_ble_eq_true rfl) ((k_X9_in h902 hI w934 (97 : Int64) (122 : Int64)).mono (fun r938 h939 p940 => ?_))
                  obtain ⟨rfl, x941, rfl, q942 | q942 | q942⟩ := p940
                  · show RUN d_X9_advance 80 [(1, .inl x916), (0, .inr (.inr (.inl 96)))] [.inl x941] h902 _
                    refine N_if_eq (a := x941.toInt) 125 rfl rfl rfl (fun c943 => ?_) (fun c943 => ?_)
                    · refine R_iload_n (k := 1) rfl rfl rfl ?_
                      refine N_i2l rfl (fun w944 q945 => ?_)
                      refine R_ldc2 (x := 48) rfl kt_9_159 ?_
                      refine R_ldc2 (x := 57) rfl kt_9_161 ?_
                      have k946 : (48 : Int64).toInt = 48 := by decide
                      have k947 : (57 : Int64).toInt = 57 := by decide
                      refine R_callS (As := [.inr (.inl w944), .inr (.inl 48), .inr (.inl 57)]) (rest := []) rfl mt_9_i125 (by decide) pp_X9_in (by decide) rfl rfl (Nat.le_of_ble_eq_true rfl) (Nat.le_of_ble_eq_true rfl) ((k_X9_in h902 hI w944 (48 : Int64) (57 : Int64)).mono (fun r948 h949 p950 => ?_))
                      obtain ⟨rfl, x951, rfl, q952 | q952 | q952⟩ := p950
                      · show RUN d_X9_advance 136 [(1, .inl x916), (0, .inr (.inr (.inl 96)))] [.inl x951] h902 _
                        refine N_if_eq (a := x951.toInt) 214 rfl rfl rfl (fun c953 => ?_) (fun c953 => ?_)
                        · refine R_aload_n (k := 0) rfl rfl rfl ?_
                          refine R_iload_n (k := 1) rfl rfl rfl ?_
                          refine R_bipush 59 rfl rfl ?_
                          refine N_icmp_ne (a := x916.toInt) (b := 59) 225 rfl rfl rfl (by decide) (fun c954 => ?_) (fun c954 => ?_)
                          · refine R_iconst 4 rfl rfl ?_
                            refine K_putf (j := 10) (lo := (-2147483648)) (hi' := 2147483647) rfl ft_9_152 sh_96 rfl hI (by decide) rfl (by decide) fr (by decide) (fun h955 g956 hI fr => ?_)
                            have fl8 : FR [96] h h955 := by rw [g956]; exact FR_wI _ _ fl8 (by decide)
                            have s957 : (h955.1 96 7).toInt = (h902.1 96 7).toInt := by rw [g956, wI_at (by decide)]
                            have s958 : (h955.1 96 5).toInt = (h902.1 96 5).toInt := by rw [g956, wI_at (by decide)]
                            have s959 : (h955.1 96 8).toInt = (h902.1 96 8).toInt := by rw [g956, wI_at (by decide)]
                            have s960 : (h955.1 96 12).toInt = (h902.1 96 12).toInt := by rw [g956, wI_at (by decide)]
                            have s961 : (h955.1 96 13).toInt = (h902.1 96 13).toInt := by rw [g956, wI_at (by decide)]
                            have s962 : (h955.1 96 11).toInt = (h902.1 96 11).toInt := by rw [g956, wI_at (by decide)]
                            have s963 : (h955.1 96 9).toInt = (h902.1 96 9).toInt := by rw [g956, wI_at (by decide)]
                            have s964 : (h955.1 96 10).toInt = 4 := by rw [g956, wI_is]; rfl
                            refine R_aload_n (k := 0) rfl rfl rfl ?_
                            refine R_dup_r rfl ?_
                            refine R_getf_i (j := 8) rfl ft_9_142 sh_96 rfl ?_
                            refine R_iconst 1 rfl rfl ?_
                            refine N_iadd (a := (h955.1 96 8).toInt) (b := 1) rfl rfl (by decide) (by omega) (fun x965 q966 => ?_)
                            refine K_putf (j := 8) (lo := 0) (hi' := 500) rfl ft_9_142 sh_96 rfl hI (by decide) rfl (by omega) fr (by decide) (fun h967 g968 hI fr => ?_)
                            have fl8 : FR [96] h h967 := by rw [g968]; exact FR_wI _ _ fl8 (by decide)
                            have s969 : (h967.1 96 7).toInt = (h955.1 96 7).toInt := by rw [g968, wI_at (by decide)]
                            have s970 : (h967.1 96 5).toInt = (h955.1 96 5).toInt := by rw [g968, wI_at (by decide)]
                            have s971 : (h967.1 96 12).toInt = (h955.1 96 12).toInt := by rw [g968, wI_at (by decide)]
                            have s972 : (h967.1 96 13).toInt = (h955.1 96 13).toInt := by rw [g968, wI_at (by decide)]
                            have s973 : (h967.1 96 11).toInt = (h955.1 96 11).toInt := by rw [g968, wI_at (by decide)]
                            have s974 : (h967.1 96 9).toInt = (h955.1 96 9).toInt := by rw [g968, wI_at (by decide)]
                            have s975 : (h967.1 96 10).toInt = (h955.1 96 10).toInt := by rw [g968, wI_at (by decide)]
                            have s976 : (h967.1 96 8).toInt = x965.toInt := by rw [g968, wI_is]
                            exact R_vret rfl rfl ⟨hI, fr, ⟨by omega, by omega, by omega, by omega, by omega, by omega, trivial⟩, rfl⟩
                          · exfalso; omega
                        · exfalso; omega
                      · show RUN d_X9_advance 136 [(1, .inl x916), (0, .inr (.inr (.inl 96)))] [.inl x951] h902 _
                        refine N_if_eq (a := x951.toInt) 214 rfl rfl rfl (fun c977 => ?_) (fun c977 => ?_)
                        · refine R_aload_n (k := 0) rfl rfl rfl ?_
                          refine R_iload_n (k := 1) rfl rfl rfl ?_
                          refine R_bipush 59 rfl rfl ?_
                          refine N_icmp_ne (a := x916.toInt) (b := 59) 225 rfl rfl rfl (by decide) (fun c978 => ?_) (fun c978 => ?_)
                          · refine R_iconst 4 rfl rfl ?_
                            refine K_putf (j := 10) (lo := (-2147483648)) (hi' := 2147483647) rfl ft_9_152 sh_96 rfl hI (by decide) rfl (by decide) fr (by decide) (fun h979 g980 hI fr => ?_)
                            have fl8 : FR [96] h h979 := by rw [g980]; exact FR_wI _ _ fl8 (by decide)
                            have s981 : (h979.1 96 7).toInt = (h902.1 96 7).toInt := by rw [g980, wI_at (by decide)]
                            have s982 : (h979.1 96 5).toInt = (h902.1 96 5).toInt := by rw [g980, wI_at (by decide)]
                            have s983 : (h979.1 96 8).toInt = (h902.1 96 8).toInt := by rw [g980, wI_at (by decide)]
                            have s984 : (h979.1 96 12).toInt = (h902.1 96 12).toInt := by rw [g980, wI_at (by decide)]
                            have s985 : (h979.1 96 13).toInt = (h902.1 96 13).toInt := by rw [g980, wI_at (by decide)]
                            have s986 : (h979.1 96 11).toInt = (h902.1 96 11).toInt := by rw [g980, wI_at (by decide)]
                            have s987 : (h979.1 96 9).toInt = (h902.1 96 9).toInt := by rw [g980, wI_at (by decide)]
                            have s988 : (h979.1 96 10).toInt = 4 := by rw [g980, wI_is]; rfl
                            refine R_aload_n (k := 0) rfl rfl rfl ?_
                            refine R_dup_r rfl ?_
                            refine R_getf_i (j := 8) rfl ft_9_142 sh_96 rfl ?_
                            refine R_iconst 1 rfl rfl ?_
                            refine N_iadd (a := (h979.1 96 8).toInt) (b := 1) rfl rfl (by decide) (by omega) (fun x989 q990 => ?_)
                            refine K_putf (j := 8) (lo := 0) (hi' := 500) rfl ft_9_142 sh_96 rfl hI (by decide) rfl (by omega) fr (by decide) (fun h991 g992 hI fr => ?_)
                            have fl8 : FR [96] h h991 := by rw [g992]; exact FR_wI _ _ fl8 (by decide)
                            have s993 : (h991.1 96 7).toInt = (h979.1 96 7).toInt := by rw [g992, wI_at (by decide)]
                            have s994 : (h991.1 96 5).toInt = (h979.1 96 5).toInt := by rw [g992, wI_at (by decide)]
                            have s995 : (h991.1 96 12).toInt = (h979.1 96 12).toInt := by rw [g992, wI_at (by decide)]
                            have s996 : (h991.1 96 13).toInt = (h979.1 96 13).toInt := by rw [g992, wI_at (by decide)]
                            have s997 : (h991.1 96 11).toInt = (h979.1 96 11).toInt := by rw [g992, wI_at (by decide)]
                            have s998 : (h991.1 96 9).toInt = (h979.1 96 9).toInt := by rw [g992, wI_at (by decide)]
                            have s999 : (h991.1 96 10).toInt = (h979.1 96 10).toInt := by rw [g992, wI_at (by decide)]
                            have s1000 : (h991.1 96 8).toInt = x989.toInt := by rw [g992, wI_is]
                            exact R_vret rfl rfl ⟨hI, fr, ⟨by omega, by omega, by omega, by omega, by omega, by omega, trivial⟩, rfl⟩
                          · refine R_iconst 3 rfl rfl ?_
                            refine R_goto 226 rfl rfl ?_
                            refine K_putf (j := 10) (lo := (-2147483648)) (hi' := 2147483647) rfl ft_9_152 sh_96 rfl hI (by decide) rfl (by decide) fr (by decide) (fun h1001 g1002 hI fr => ?_)
                            have fl8 : FR [96] h h1001 := by rw [g1002]; exact FR_wI _ _ fl8 (by decide)
                            have s1003 : (h1001.1 96 7).toInt = (h902.1 96 7).toInt := by rw [g1002, wI_at (by decide)]
                            have s1004 : (h1001.1 96 5).toInt = (h902.1 96 5).toInt := by rw [g1002, wI_at (by decide)]
                            have s1005 : (h1001.1 96 8).toInt = (h902.1 96 8).toInt := by rw [g1002, wI_at (by decide)]
                            have s1006 : (h1001.1 96 12).toInt = (h902.1 96 12).toInt := by rw [g1002, wI_at (by decide)]
                            have s1007 : (h1001.1 96 13).toInt = (h902.1 96 13).toInt := by rw [g1002, wI_at (by decide)]
                            have s1008 : (h1001.1 96 11).toInt = (h902.1 96 11).toInt := by rw [g1002, wI_at (by decide)]
                            have s1009 : (h1001.1 96 9).toInt = (h902.1 96 9).toInt := by rw [g1002, wI_at (by decide)]
                            have s1010 : (h1001.1 96 10).toInt = 3 := by rw [g1002, wI_is]; rfl
                            refine R_aload_n (k := 0) rfl rfl rfl ?_
                            refine R_dup_r rfl ?_
                            refine R_getf_i (j := 8) rfl ft_9_142 sh_96 rfl ?_
                            refine R_iconst 1 rfl rfl ?_
                            refine N_iadd (a := (h1001.1 96 8).toInt) (b := 1) rfl rfl (by decide) (by omega) (fun x1011 q1012 => ?_)
                            refine K_putf (j := 8) (lo := 0) (hi' := 500) rfl ft_9_142 sh_96 rfl hI (by decide) rfl (by omega) fr (by decide) (fun h1013 g1014 hI fr => ?_)
                            have fl8 : FR [96] h h1013 := by rw [g1014]; exact FR_wI _ _ fl8 (by decide)
                            have s1015 : (h1013.1 96 7).toInt = (h1001.1 96 7).toInt := by rw [g1014, wI_at (by decide)]
                            have s1016 : (h1013.1 96 5).toInt = (h1001.1 96 5).toInt := by rw [g1014, wI_at (by decide)]
                            have s1017 : (h1013.1 96 12).toInt = (h1001.1 96 12).toInt := by rw [g1014, wI_at (by decide)]
                            have s1018 : (h1013.1 96 13).toInt = (h1001.1 96 13).toInt := by rw [g1014, wI_at (by decide)]
                            have s1019 : (h1013.1 96 11).toInt = (h1001.1 96 11).toInt := by rw [g1014, wI_at (by decide)]
                            have s1020 : (h1013.1 96 9).toInt = (h1001.1 96 9).toInt := by rw [g1014, wI_at (by decide)]
                            have s1021 : (h1013.1 96 10).toInt = (h1001.1 96 10).toInt := by rw [g1014, wI_at (by decide)]
                            have s1022 : (h1013.1 96 8).toInt = x1011.toInt := by rw [g1014, wI_is]
                            exact R_vret rfl rfl ⟨hI, fr, ⟨by omega, by omega, by omega, by omega, by omega, by omega, trivial⟩, rfl⟩
                        · exfalso; omega
                      · show RUN d_X9_advance 136 [(1, .inl x916), (0, .inr (.inr (.inl 96)))] [.inl x951] h902 _
                        refine N_if_eq (a := x951.toInt) 214 rfl rfl rfl (fun c1023 => ?_) (fun c1023 => ?_)
                        · exfalso; omega
                        · refine R_aload_n (k := 0) rfl rfl rfl ?_
                          refine R_iconst 0 rfl rfl ?_
                          refine K_putf (j := 11) (lo := (-2147483648)) (hi' := 2147483647) rfl ft_9_163 sh_96 rfl hI (by decide) rfl (by decide) fr (by decide) (fun h1024 g1025 hI fr => ?_)
                          have fl8 : FR [96] h h1024 := by rw [g1025]; exact FR_wI _ _ fl8 (by decide)
                          have s1026 : (h1024.1 96 7).toInt = (h902.1 96 7).toInt := by rw [g1025, wI_at (by decide)]
                          have s1027 : (h1024.1 96 5).toInt = (h902.1 96 5).toInt := by rw [g1025, wI_at (by decide)]
                          have s1028 : (h1024.1 96 8).toInt = (h902.1 96 8).toInt := by rw [g1025, wI_at (by decide)]
                          have s1029 : (h1024.1 96 12).toInt = (h902.1 96 12).toInt := by rw [g1025, wI_at (by decide)]
                          have s1030 : (h1024.1 96 13).toInt = (h902.1 96 13).toInt := by rw [g1025, wI_at (by decide)]
                          have s1031 : (h1024.1 96 10).toInt = (h902.1 96 10).toInt := by rw [g1025, wI_at (by decide)]
                          have s1032 : (h1024.1 96 9).toInt = (h902.1 96 9).toInt := by rw [g1025, wI_at (by decide)]
                          have s1033 : (h1024.1 96 11).toInt = 0 := by rw [g1025, wI_is]; rfl
                          have lp1035 : ∀ (n1034 : Nat) (h1036 : PH), INV h1036 → FR [96] h h1036 → FR [96] h1024 h1036 → (h1036.1 96 7).toInt = (h1024.1 96 7).toInt → (h1036.1 96 5).toInt = (h1024.1 96 5).toInt → (h1036.1 96 12).toInt = (h1024.1 96 12).toInt → (h1036.1 96 13).toInt = (h1024.1 96 13).toInt → (h1036.1 96 9).toInt = (h1024.1 96 9).toInt → 1 ≤ (h1036.1 96 8).toInt ∧ (h1036.1 96 8).toInt ≤ 498 → True → (h1036.1 96 11).toInt ≤ 99999 → (h1036.1 96 8).toInt ≤ x916.toInt + 447 → (h1036.1 96 8).toInt ≤ (h1024.1 96 7).toInt + (-2) → (h1024.1 96 7).toInt ≤ (h1036.1 96 8).toInt + (-1) → (h1024.1 96 7).toInt ≤ (h1036.1 96 8).toInt + 0 → (h1036.1 96 8).toInt ≤ (h1024.1 96 5).toInt + 495 → (h1036.1 96 8).toInt ≤ (h1024.1 96 12).toInt + 495 → (h1036.1 96 8).toInt ≤ (h1024.1 96 9).toInt + (-2) → (h1024.1 96 9).toInt ≤ (h1036.1 96 8).toInt + (-2) → (seeF h1036 = seeF h) → ((h902.1 96 8).toInt + 1 ≤ (h1036.1 96 8).toInt ∨ h1036.1 96 8 = h902.1 96 8) → ((h902.1 96 8).toInt ≤ (h1036.1 96 8).toInt) → (498 - (h1036.1 96 8).toInt).toNat < n1034 → RUN d_X9_advance 144 [(1, .inl x916), (0, .inr (.inr (.inl 96)))] [] h1036 (qg_X9_advance h) := by
                            intro n1034
                            induction n1034 with
                            | zero => intro h1036 m1039 m1040 m1041 m1042 m1043 m1044 m1045 m1046 m1047 m1048 m1049 m1050 m1051 m1052 m1053 m1054 m1055 m1056 m1057 m1058 m1059 m1060 hz; exact absurd hz (Nat.not_lt_zero _)
                            | succ n1034 ih1038 =>
                              intro h1036 hI fr fl1037 m1042 m1043 m1044 m1045 m1046 m1047 m1048 m1049 m1050 m1051 m1052 m1053 m1054 m1055 m1056 m1057 m1058 m1059 m1060 hz
                              have fl8 : FR [96] h h1036 := fl8.trans fl1037 (by decide)
                              refine R_aload_n (k := 0) rfl rfl rfl ?_
                              refine R_aload_n (k := 0) rfl rfl rfl ?_
                              refine R_getf_i (j := 8) rfl ft_9_142 sh_96 rfl ?_
                              refine R_callV (v := .inr (.inr (.inl 96))) (As := [.inl (h1036.1 96 8)]) (rest := []) rfl mt_9_i145 pp_X9_see (by decide) rfl rfl rfl (Nat.le_of_ble_eq_true rfl) (Nat.le_of_ble_eq_true rfl) ((g_X9_see h1036 hI (h1036.1 96 8) (by omega)).mono (fun r1061 h1062 p1063 => ?_))
                              obtain ⟨rfl, x1065, rfl, (q1066 | q1066), zq1064, -⟩ := p1063
                              · show RUN d_X9_advance 152 [(1, .inl x916), (0, .inr (.inr (.inl 96)))] [.inl x1065] h1036 _
                                have sy1067 : (h902.1 96 8).toInt + 1 ≤ (h1036.1 96 8).toInt ∨ x1065.toInt = x916.toInt := Or.elim m1059 Or.inl (fun c => Or.inr (by rw [zq1064, m1058, c, ← sz932]))
                                refine N_i2l rfl (fun w1068 q1069 => ?_)
                                refine R_ldc2 (x := 48) rfl kt_9_159 ?_
                                refine R_ldc2 (x := 57) rfl kt_9_161 ?_
                                have k1070 : (48 : Int64).toInt = 48 := by decide
                                have k1071 : (57 : Int64).toInt = 57 := by decide
                                refine R_callS (As := [.inr (.inl w1068), .inr (.inl 48), .inr (.inl 57)]) (rest := []) rfl mt_9_i125 (by decide) pp_X9_in (by decide) rfl rfl (Nat.le_of_ble_eq_true rfl) (Nat.le_of_ble_eq_true rfl) ((k_X9_in h1036 hI w1068 (48 : Int64) (57 : Int64)).mono (fun r1072 h1073 p1074 => ?_))
                                obtain ⟨rfl, x1075, rfl, q1076 | q1076 | q1076⟩ := p1074
                                · show RUN d_X9_advance 162 [(1, .inl x916), (0, .inr (.inr (.inl 96)))] [.inl x1075] h1036 _
                                  refine N_if_eq (a := x1075.toInt) 206 rfl rfl rfl (fun c1077 => ?_) (fun c1077 => ?_)
                                  · refine R_aload_n (k := 0) rfl rfl rfl ?_
                                    refine R_iconst 2 rfl rfl ?_
                                    refine K_putf (j := 10) (lo := (-2147483648)) (hi' := 2147483647) rfl ft_9_152 sh_96 rfl hI (by decide) rfl (by decide) fr (by decide) (fun h1078 g1079 hI fr => ?_)
                                    have fl1037 : FR [96] h1024 h1078 := by rw [g1079]; exact FR_wI _ _ fl1037 (by decide)
                                    have fl8 : FR [96] h h1078 := by rw [g1079]; exact FR_wI _ _ fl8 (by decide)
                                    have s1080 : (h1078.1 96 7).toInt = (h1036.1 96 7).toInt := by rw [g1079, wI_at (by decide)]
                                    have s1081 : (h1078.1 96 5).toInt = (h1036.1 96 5).toInt := by rw [g1079, wI_at (by decide)]
                                    have s1082 : (h1078.1 96 8).toInt = (h1036.1 96 8).toInt := by rw [g1079, wI_at (by decide)]
                                    have s1083 : (h1078.1 96 12).toInt = (h1036.1 96 12).toInt := by rw [g1079, wI_at (by decide)]
                                    have s1084 : (h1078.1 96 13).toInt = (h1036.1 96 13).toInt := by rw [g1079, wI_at (by decide)]
                                    have s1085 : (h1078.1 96 9).toInt = (h1036.1 96 9).toInt := by rw [g1079, wI_at (by decide)]
                                    have s1086 : (h1078.1 96 11).toInt = (h1036.1 96 11).toInt := by rw [g1079, wI_at (by decide)]
                                    have s1087 : (h1078.1 96 10).toInt = 2 := by rw [g1079, wI_is]; rfl
                                    refine R_goto 239 rfl rfl ?_
                                    exact R_vret rfl rfl ⟨hI, fr, ⟨by omega, by omega, by omega, by omega, by omega, by omega, trivial⟩, rfl⟩
                                  · exfalso; omega
                                · exfalso; omega
                                · exfalso; omega
                              · show RUN d_X9_advance 152 [(1, .inl x916), (0, .inr (.inr (.inl 96)))] [.inl x1065] h1036 _
                                have sy1088 : (h902.1 96 8).toInt + 1 ≤ (h1036.1 96 8).toInt ∨ x1065.toInt = x916.toInt := Or.elim m1059 Or.inl (fun c => Or.inr (by rw [zq1064, m1058, c, ← sz932]))
                                refine N_i2l rfl (fun w1089 q1090 => ?_)
                                refine R_ldc2 (x := 48) rfl kt_9_159 ?_
                                refine R_ldc2 (x := 57) rfl kt_9_161 ?_
                                have k1091 : (48 : Int64).toInt = 48 := by decide
                                have k1092 : (57 : Int64).toInt = 57 := by decide
                                refine R_callS (As := [.inr (.inl w1089), .inr (.inl 48), .inr (.inl 57)]) (rest := []) rfl mt_9_i125 (by decide) pp_X9_in (by decide) rfl rfl (Nat.le_of_ble_eq_true rfl) (Nat.le_of_ble_eq_true rfl) ((k_X9_in h1036 hI w1089 (48 : Int64) (57 : Int64)).mono (fun r1093 h1094 p1095 => ?_))
                                obtain ⟨rfl, x1096, rfl, q1097 | q1097 | q1097⟩ := p1095
                                · show RUN d_X9_advance 162 [(1, .inl x916), (0, .inr (.inr (.inl 96)))] [.inl x1096] h1036 _
                                  refine N_if_eq (a := x1096.toInt) 206 rfl rfl rfl (fun c1098 => ?_) (fun c1098 => ?_)
                                  · refine R_aload_n (k := 0) rfl rfl rfl ?_
                                    refine R_iconst 2 rfl rfl ?_
                                    refine K_putf (j := 10) (lo := (-2147483648)) (hi' := 2147483647) rfl ft_9_152 sh_96 rfl hI (by decide) rfl (by decide) fr (by decide) (fun h1099 g1100 hI fr => ?_)
                                    have fl1037 : FR [96] h1024 h1099 := by rw [g1100]; exact FR_wI _ _ fl1037 (by decide)
                                    have fl8 : FR [96] h h1099 := by rw [g1100]; exact FR_wI _ _ fl8 (by decide)
                                    have s1101 : (h1099.1 96 7).toInt = (h1036.1 96 7).toInt := by rw [g1100, wI_at (by decide)]
                                    have s1102 : (h1099.1 96 5).toInt = (h1036.1 96 5).toInt := by rw [g1100, wI_at (by decide)]
                                    have s1103 : (h1099.1 96 8).toInt = (h1036.1 96 8).toInt := by rw [g1100, wI_at (by decide)]
                                    have s1104 : (h1099.1 96 12).toInt = (h1036.1 96 12).toInt := by rw [g1100, wI_at (by decide)]
                                    have s1105 : (h1099.1 96 13).toInt = (h1036.1 96 13).toInt := by rw [g1100, wI_at (by decide)]
                                    have s1106 : (h1099.1 96 9).toInt = (h1036.1 96 9).toInt := by rw [g1100, wI_at (by decide)]
                                    have s1107 : (h1099.1 96 11).toInt = (h1036.1 96 11).toInt := by rw [g1100, wI_at (by decide)]
                                    have s1108 : (h1099.1 96 10).toInt = 2 := by rw [g1100, wI_is]; rfl
                                    refine R_goto 239 rfl rfl ?_
                                    exact R_vret rfl rfl ⟨hI, fr, ⟨by omega, by omega, by omega, by omega, by omega, by omega, trivial⟩, rfl⟩
                                  · exfalso; omega
                                · show RUN d_X9_advance 162 [(1, .inl x916), (0, .inr (.inr (.inl 96)))] [.inl x1096] h1036 _
                                  refine N_if_eq (a := x1096.toInt) 206 rfl rfl rfl (fun c1109 => ?_) (fun c1109 => ?_)
                                  · refine R_aload_n (k := 0) rfl rfl rfl ?_
                                    refine R_iconst 2 rfl rfl ?_
                                    refine K_putf (j := 10) (lo := (-2147483648)) (hi' := 2147483647) rfl ft_9_152 sh_96 rfl hI (by decide) rfl (by decide) fr (by decide) (fun h1110 g1111 hI fr => ?_)
                                    have fl1037 : FR [96] h1024 h1110 := by rw [g1111]; exact FR_wI _ _ fl1037 (by decide)
                                    have fl8 : FR [96] h h1110 := by rw [g1111]; exact FR_wI _ _ fl8 (by decide)
                                    have s1112 : (h1110.1 96 7).toInt = (h1036.1 96 7).toInt := by rw [g1111, wI_at (by decide)]
                                    have s1113 : (h1110.1 96 5).toInt = (h1036.1 96 5).toInt := by rw [g1111, wI_at (by decide)]
                                    have s1114 : (h1110.1 96 8).toInt = (h1036.1 96 8).toInt := by rw [g1111, wI_at (by decide)]
                                    have s1115 : (h1110.1 96 12).toInt = (h1036.1 96 12).toInt := by rw [g1111, wI_at (by decide)]
                                    have s1116 : (h1110.1 96 13).toInt = (h1036.1 96 13).toInt := by rw [g1111, wI_at (by decide)]
                                    have s1117 : (h1110.1 96 9).toInt = (h1036.1 96 9).toInt := by rw [g1111, wI_at (by decide)]
                                    have s1118 : (h1110.1 96 11).toInt = (h1036.1 96 11).toInt := by rw [g1111, wI_at (by decide)]
                                    have s1119 : (h1110.1 96 10).toInt = 2 := by rw [g1111, wI_is]; rfl
                                    refine R_goto 239 rfl rfl ?_
                                    exact R_vret rfl rfl ⟨hI, fr, ⟨by omega, by omega, by omega, by omega, by omega, by omega, trivial⟩, rfl⟩
                                  · exfalso; omega
                                · show RUN d_X9_advance 162 [(1, .inl x916), (0, .inr (.inr (.inl 96)))] [.inl x1096] h1036 _
                                  refine N_if_eq (a := x1096.toInt) 206 rfl rfl rfl (fun c1120 => ?_) (fun c1120 => ?_)
                                  · exfalso; omega
                                  · refine R_aload_n (k := 0) rfl rfl rfl ?_
                                    refine R_ldc_i (x := 99999) rfl kt_9_166 ?_
                                    refine R_bipush 10 rfl rfl ?_
                                    refine R_aload_n (k := 0) rfl rfl rfl ?_
                                    refine R_getf_i (j := 11) rfl ft_9_163 sh_96 rfl ?_
                                    have b1121 := i_rng (h1036.1 96 11)
                                    refine R_imul rfl ?_
                                    refine N_any (fun x1122 => ?_)
                                    refine R_aload_n (k := 0) rfl rfl rfl ?_
                                    refine R_aload_n (k := 0) rfl rfl rfl ?_
                                    refine R_getf_i (j := 8) rfl ft_9_142 sh_96 rfl ?_
                                    refine R_callV (v := .inr (.inr (.inl 96))) (As := [.inl (h1036.1 96 8)]) (rest := [.inl x1122, .inl 99999, .inr (.inr (.inl 96))]) rfl mt_9_i145 pp_X9_see (by decide) rfl rfl rfl (Nat.le_of_ble_eq_true rfl) (Nat.le_of_ble_eq_true rfl) ((g_X9_see h1036 hI (h1036.1 96 8) (by omega)).mono (fun r1123 h1124 p1125 => ?_))
                                    obtain ⟨rfl, x1127, rfl, (q1128 | q1128), zq1126, -⟩ := p1125
                                    · show RUN d_X9_advance 183 [(1, .inl x916), (0, .inr (.inr (.inl 96)))] [.inl x1127, .inl x1122, .inl 99999, .inr (.inr (.inl 96))] h1036 _
                                      have b1129 := i_rng x1122
                                      refine R_iadd rfl ?_
                                      refine N_any (fun x1130 => ?_)
                                      refine R_bipush 48 rfl rfl ?_
                                      have b1131 := i_rng x1130
                                      refine R_isub rfl ?_
                                      refine N_any (fun x1132 => ?_)
                                      refine N_min (a := 99999) (b := x1132.toInt) rfl mt_9_i167 (by decide) rfl ⟨by decide, by decide, Nat.le_of_ble_eq_true rfl⟩ (fun x1133 q1134 => ?_)
                                      refine K_putf (j := 11) (lo := (-2147483648)) (hi' := 2147483647) rfl ft_9_163 sh_96 rfl hI (by decide) rfl (i_rng _) fr (by decide) (fun h1135 g1136 hI fr => ?_)
                                      have fl1037 : FR [96] h1024 h1135 := by rw [g1136]; exact FR_wI _ _ fl1037 (by decide)
                                      have fl8 : FR [96] h h1135 := by rw [g1136]; exact FR_wI _ _ fl8 (by decide)
                                      have s1137 : (h1135.1 96 7).toInt = (h1036.1 96 7).toInt := by rw [g1136, wI_at (by decide)]
                                      have s1138 : (h1135.1 96 5).toInt = (h1036.1 96 5).toInt := by rw [g1136, wI_at (by decide)]
                                      have s1139 : (h1135.1 96 8).toInt = (h1036.1 96 8).toInt := by rw [g1136, wI_at (by decide)]
                                      have s1140 : (h1135.1 96 12).toInt = (h1036.1 96 12).toInt := by rw [g1136, wI_at (by decide)]
                                      have s1141 : (h1135.1 96 13).toInt = (h1036.1 96 13).toInt := by rw [g1136, wI_at (by decide)]
                                      have s1142 : (h1135.1 96 10).toInt = (h1036.1 96 10).toInt := by rw [g1136, wI_at (by decide)]
                                      have s1143 : (h1135.1 96 9).toInt = (h1036.1 96 9).toInt := by rw [g1136, wI_at (by decide)]
                                      have s1144 : (h1135.1 96 11).toInt = x1133.toInt := by rw [g1136, wI_is]
                                      refine R_aload_n (k := 0) rfl rfl rfl ?_
                                      refine R_dup_r rfl ?_
                                      refine R_getf_i (j := 8) rfl ft_9_142 sh_96 rfl ?_
                                      refine R_iconst 1 rfl rfl ?_
                                      refine N_iadd (a := (h1135.1 96 8).toInt) (b := 1) rfl rfl (by decide) (by omega) (fun x1145 q1146 => ?_)
                                      refine K_putf (j := 8) (lo := 0) (hi' := 500) rfl ft_9_142 sh_96 rfl hI (by decide) rfl (by omega) fr (by decide) (fun h1147 g1148 hI fr => ?_)
                                      have fl1037 : FR [96] h1024 h1147 := by rw [g1148]; exact FR_wI _ _ fl1037 (by decide)
                                      have fl8 : FR [96] h h1147 := by rw [g1148]; exact FR_wI _ _ fl8 (by decide)
                                      have s1149 : (h1147.1 96 7).toInt = (h1135.1 96 7).toInt := by rw [g1148, wI_at (by decide)]
                                      have s1150 : (h1147.1 96 5).toInt = (h1135.1 96 5).toInt := by rw [g1148, wI_at (by decide)]
                                      have s1151 : (h1147.1 96 12).toInt = (h1135.1 96 12).toInt := by rw [g1148, wI_at (by decide)]
                                      have s1152 : (h1147.1 96 13).toInt = (h1135.1 96 13).toInt := by rw [g1148, wI_at (by decide)]
                                      have s1153 : (h1147.1 96 10).toInt = (h1135.1 96 10).toInt := by rw [g1148, wI_at (by decide)]
                                      have s1154 : (h1147.1 96 9).toInt = (h1135.1 96 9).toInt := by rw [g1148, wI_at (by decide)]
                                      have s1155 : (h1147.1 96 11).toInt = (h1135.1 96 11).toInt := by rw [g1148, wI_at (by decide)]
                                      have s1156 : (h1147.1 96 8).toInt = x1145.toInt := by rw [g1148, wI_is]
                                      refine R_goto 144 rfl rfl ?_
                                      exact RUN_weak (psub_cons rfl (psub_cons rfl (psub_nil _))) (ih1038 h1147 hI fr fl1037 (by omega) (by omega) (by omega) (by omega) (by omega) (by omega) trivial (by omega) (by omega) (by omega) (by omega) (by omega) (by omega) (by omega) (by omega) (by omega) (by rw [g1148, seeF_w (by decide), g1136, seeF_w (by decide)]; exact m1058) (Or.inl (by omega)) (by omega) (by omega))
                                    · show RUN d_X9_advance 183 [(1, .inl x916), (0, .inr (.inr (.inl 96)))] [.inl x1127, .inl x1122, .inl 99999, .inr (.inr (.inl 96))] h1036 _
                                      have b1157 := i_rng x1122
                                      refine R_iadd rfl ?_
                                      refine N_any (fun x1158 => ?_)
                                      refine R_bipush 48 rfl rfl ?_
                                      have b1159 := i_rng x1158
                                      refine R_isub rfl ?_
                                      refine N_any (fun x1160 => ?_)
                                      refine N_min (a := 99999) (b := x1160.toInt) rfl mt_9_i167 (by decide) rfl ⟨by decide, by decide, Nat.le_of_ble_eq_true rfl⟩ (fun x1161 q1162 => ?_)
                                      refine K_putf (j := 11) (lo := (-2147483648)) (hi' := 2147483647) rfl ft_9_163 sh_96 rfl hI (by decide) rfl (i_rng _) fr (by decide) (fun h1163 g1164 hI fr => ?_)
                                      have fl1037 : FR [96] h1024 h1163 := by rw [g1164]; exact FR_wI _ _ fl1037 (by decide)
                                      have fl8 : FR [96] h h1163 := by rw [g1164]; exact FR_wI _ _ fl8 (by decide)
                                      have s1165 : (h1163.1 96 7).toInt = (h1036.1 96 7).toInt := by rw [g1164, wI_at (by decide)]
                                      have s1166 : (h1163.1 96 5).toInt = (h1036.1 96 5).toInt := by rw [g1164, wI_at (by decide)]
                                      have s1167 : (h1163.1 96 8).toInt = (h1036.1 96 8).toInt := by rw [g1164, wI_at (by decide)]
                                      have s1168 : (h1163.1 96 12).toInt = (h1036.1 96 12).toInt := by rw [g1164, wI_at (by decide)]
                                      have s1169 : (h1163.1 96 13).toInt = (h1036.1 96 13).toInt := by rw [g1164, wI_at (by decide)]
                                      have s1170 : (h1163.1 96 10).toInt = (h1036.1 96 10).toInt := by rw [g1164, wI_at (by decide)]
                                      have s1171 : (h1163.1 96 9).toInt = (h1036.1 96 9).toInt := by rw [g1164, wI_at (by decide)]
                                      have s1172 : (h1163.1 96 11).toInt = x1161.toInt := by rw [g1164, wI_is]
                                      refine R_aload_n (k := 0) rfl rfl rfl ?_
                                      refine R_dup_r rfl ?_
                                      refine R_getf_i (j := 8) rfl ft_9_142 sh_96 rfl ?_
                                      refine R_iconst 1 rfl rfl ?_
                                      refine N_iadd (a := (h1163.1 96 8).toInt) (b := 1) rfl rfl (by decide) (by omega) (fun x1173 q1174 => ?_)
                                      refine K_putf (j := 8) (lo := 0) (hi' := 500) rfl ft_9_142 sh_96 rfl hI (by decide) rfl (by omega) fr (by decide) (fun h1175 g1176 hI fr => ?_)
                                      have fl1037 : FR [96] h1024 h1175 := by rw [g1176]; exact FR_wI _ _ fl1037 (by decide)
                                      have fl8 : FR [96] h h1175 := by rw [g1176]; exact FR_wI _ _ fl8 (by decide)
                                      have s1177 : (h1175.1 96 7).toInt = (h1163.1 96 7).toInt := by rw [g1176, wI_at (by decide)]
                                      have s1178 : (h1175.1 96 5).toInt = (h1163.1 96 5).toInt := by rw [g1176, wI_at (by decide)]
                                      have s1179 : (h1175.1 96 12).toInt = (h1163.1 96 12).toInt := by rw [g1176, wI_at (by decide)]
                                      have s1180 : (h1175.1 96 13).toInt = (h1163.1 96 13).toInt := by rw [g1176, wI_at (by decide)]
                                      have s1181 : (h1175.1 96 10).toInt = (h1163.1 96 10).toInt := by rw [g1176, wI_at (by decide)]
                                      have s1182 : (h1175.1 96 9).toInt = (h1163.1 96 9).toInt := by rw [g1176, wI_at (by decide)]
                                      have s1183 : (h1175.1 96 11).toInt = (h1163.1 96 11).toInt := by rw [g1176, wI_at (by decide)]
                                      have s1184 : (h1175.1 96 8).toInt = x1173.toInt := by rw [g1176, wI_is]
                                      refine R_goto 144 rfl rfl ?_
                                      exact RUN_weak (psub_cons rfl (psub_cons rfl (psub_nil _))) (ih1038 h1175 hI fr fl1037 (by omega) (by omega) (by omega) (by omega) (by omega) (by omega) trivial (by omega) (by omega) (by omega) (by omega) (by omega) (by omega) (by omega) (by omega) (by omega) (by rw [g1176, seeF_w (by decide), g1164, seeF_w (by decide)]; exact m1058) (Or.inl (by omega)) (by omega) (by omega))
                          exact lp1035 _ h1024 hI fr (FR.rf _ _) rfl rfl rfl rfl rfl (by omega) trivial (by omega) (by omega) (by omega) (by omega) (by omega) (by omega) (by omega) (by omega) (by omega) (by rw [g1025, seeF_w (by decide)]; exact sS931) (Or.inr (by rw [g1025, wI_at (by decide)])) (by omega) (Nat.lt_succ_self _)
                    · exfalso; omega
                  · show RUN d_X9_advance 80 [(1, .inl x916), (0, .inr (.inr (.inl 96)))] [.inl x941] h902 _
                    refine N_if_eq (a := x941.toInt) 125 rfl rfl rfl (fun c1185 => ?_) (fun c1185 => ?_)
                    · refine R_iload_n (k := 1) rfl rfl rfl ?_
                      refine N_i2l rfl (fun w1186 q1187 => ?_)
                      refine R_ldc2 (x := 48) rfl kt_9_159 ?_
                      refine R_ldc2 (x := 57) rfl kt_9_161 ?_
                      have k1188 : (48 : Int64).toInt = 48 := by decide
                      have k1189 : (57 : Int64).toInt = 57 := by decide
                      refine R_callS (As := [.inr (.inl w1186), .inr (.inl 48), .inr (.inl 57)]) (rest := []) rfl mt_9_i125 (by decide) pp_X9_in (by decide) rfl rfl (Nat.le_of_ble_eq_true rfl) (Nat.le_of_ble_eq_true rfl) ((k_X9_in h902 hI w1186 (48 : Int64) (57 : Int64)).mono (fun r1190 h1191 p1192 => ?_))
                      obtain ⟨rfl, x1193, rfl, q1194 | q1194 | q1194⟩ := p1192
                      · exfalso; omega
                      · show RUN d_X9_advance 136 [(1, .inl x916), (0, .inr (.inr (.inl 96)))] [.inl x1193] h902 _
                        refine N_if_eq (a := x1193.toInt) 214 rfl rfl rfl (fun c1195 => ?_) (fun c1195 => ?_)
                        · refine R_aload_n (k := 0) rfl rfl rfl ?_
                          refine R_iload_n (k := 1) rfl rfl rfl ?_
                          refine R_bipush 59 rfl rfl ?_
                          refine N_icmp_ne (a := x916.toInt) (b := 59) 225 rfl rfl rfl (by decide) (fun c1196 => ?_) (fun c1196 => ?_)
                          · refine R_iconst 4 rfl rfl ?_
                            refine K_putf (j := 10) (lo := (-2147483648)) (hi' := 2147483647) rfl ft_9_152 sh_96 rfl hI (by decide) rfl (by decide) fr (by decide) (fun h1197 g1198 hI fr => ?_)
                            have fl8 : FR [96] h h1197 := by rw [g1198]; exact FR_wI _ _ fl8 (by decide)
                            have s1199 : (h1197.1 96 7).toInt = (h902.1 96 7).toInt := by rw [g1198, wI_at (by decide)]
                            have s1200 : (h1197.1 96 5).toInt = (h902.1 96 5).toInt := by rw [g1198, wI_at (by decide)]
                            have s1201 : (h1197.1 96 8).toInt = (h902.1 96 8).toInt := by rw [g1198, wI_at (by decide)]
                            have s1202 : (h1197.1 96 12).toInt = (h902.1 96 12).toInt := by rw [g1198, wI_at (by decide)]
                            have s1203 : (h1197.1 96 13).toInt = (h902.1 96 13).toInt := by rw [g1198, wI_at (by decide)]
                            have s1204 : (h1197.1 96 11).toInt = (h902.1 96 11).toInt := by rw [g1198, wI_at (by decide)]
                            have s1205 : (h1197.1 96 9).toInt = (h902.1 96 9).toInt := by rw [g1198, wI_at (by decide)]
                            have s1206 : (h1197.1 96 10).toInt = 4 := by rw [g1198, wI_is]; rfl
                            refine R_aload_n (k := 0) rfl rfl rfl ?_
                            refine R_dup_r rfl ?_
                            refine R_getf_i (j := 8) rfl ft_9_142 sh_96 rfl ?_
                            refine R_iconst 1 rfl rfl ?_
                            refine N_iadd (a := (h1197.1 96 8).toInt) (b := 1) rfl rfl (by decide) (by omega) (fun x1207 q1208 => ?_)
                            refine K_putf (j := 8) (lo := 0) (hi' := 500) rfl ft_9_142 sh_96 rfl hI (by decide) rfl (by omega) fr (by decide) (fun h1209 g1210 hI fr => ?_)
                            have fl8 : FR [96] h h1209 := by rw [g1210]; exact FR_wI _ _ fl8 (by decide)
                            have s1211 : (h1209.1 96 7).toInt = (h1197.1 96 7).toInt := by rw [g1210, wI_at (by decide)]
                            have s1212 : (h1209.1 96 5).toInt = (h1197.1 96 5).toInt := by rw [g1210, wI_at (by decide)]
                            have s1213 : (h1209.1 96 12).toInt = (h1197.1 96 12).toInt := by rw [g1210, wI_at (by decide)]
                            have s1214 : (h1209.1 96 13).toInt = (h1197.1 96 13).toInt := by rw [g1210, wI_at (by decide)]
                            have s1215 : (h1209.1 96 11).toInt = (h1197.1 96 11).toInt := by rw [g1210, wI_at (by decide)]
                            have s1216 : (h1209.1 96 9).toInt = (h1197.1 96 9).toInt := by rw [g1210, wI_at (by decide)]
                            have s1217 : (h1209.1 96 10).toInt = (h1197.1 96 10).toInt := by rw [g1210, wI_at (by decide)]
                            have s1218 : (h1209.1 96 8).toInt = x1207.toInt := by rw [g1210, wI_is]
                            exact R_vret rfl rfl ⟨hI, fr, ⟨by omega, by omega, by omega, by omega, by omega, by omega, trivial⟩, rfl⟩
                          · exfalso; omega
                        · exfalso; omega
                      · exfalso; omega
                    · exfalso; omega
                  · show RUN d_X9_advance 80 [(1, .inl x916), (0, .inr (.inr (.inl 96)))] [.inl x941] h902 _
                    refine N_if_eq (a := x941.toInt) 125 rfl rfl rfl (fun c1219 => ?_) (fun c1219 => ?_)
                    · exfalso; omega
                    · have lp1221 : ∀ (n1220 : Nat) (h1222 : PH), INV h1222 → FR [96] h h1222 → FR [96] h902 h1222 → (h1222.1 96 7).toInt = (h902.1 96 7).toInt → (h1222.1 96 5).toInt = (h902.1 96 5).toInt → (h1222.1 96 12).toInt = (h902.1 96 12).toInt → (h1222.1 96 13).toInt = (h902.1 96 13).toInt → (h1222.1 96 11).toInt = (h902.1 96 11).toInt → (h1222.1 96 9).toInt = (h902.1 96 9).toInt → 1 ≤ (h1222.1 96 8).toInt ∧ (h1222.1 96 8).toInt ≤ 498 → True → (h1222.1 96 8).toInt ≤ x916.toInt + 398 → (h1222.1 96 8).toInt ≤ (h902.1 96 7).toInt + (-3) → (h902.1 96 7).toInt ≤ (h1222.1 96 8).toInt + (-2) → (h1222.1 96 8).toInt ≤ (h902.1 96 5).toInt + 495 → (h1222.1 96 8).toInt ≤ (h902.1 96 12).toInt + 495 → (h1222.1 96 8).toInt ≤ (h902.1 96 9).toInt + (-3) → (h902.1 96 9).toInt ≤ (h1222.1 96 8).toInt + (-3) → (seeF h1222 = seeF h) → ((h902.1 96 8).toInt + 1 ≤ (h1222.1 96 8).toInt ∨ h1222.1 96 8 = h902.1 96 8) → ((h902.1 96 8).toInt ≤ (h1222.1 96 8).toInt) → (498 - (h1222.1 96 8).toInt).toNat < n1220 → RUN d_X9_advance 83 [(1, .inl x916), (0, .inr (.inr (.inl 96)))] [] h1222 (qg_X9_advance h) := by
                        intro n1220
                        induction n1220 with
                        | zero => intro h1222 m1225 m1226 m1227 m1228 m1229 m1230 m1231 m1232 m1233 m1234 m1235 m1236 m1237 m1238 m1239 m1240 m1241 m1242 m1243 m1244 m1245 hz; exact absurd hz (Nat.not_lt_zero _)
                        | succ n1220 ih1224 =>
                          intro h1222 hI fr fl1223 m1228 m1229 m1230 m1231 m1232 m1233 m1234 m1235 m1236 m1237 m1238 m1239 m1240 m1241 m1242 m1243 m1244 m1245 hz
                          have fl8 : FR [96] h h1222 := fl8.trans fl1223 (by decide)
                          refine R_aload_n (k := 0) rfl rfl rfl ?_
                          refine R_aload_n (k := 0) rfl rfl rfl ?_
                          refine R_getf_i (j := 8) rfl ft_9_142 sh_96 rfl ?_
                          refine R_callV (v := .inr (.inr (.inl 96))) (As := [.inl (h1222.1 96 8)]) (rest := []) rfl mt_9_i145 pp_X9_see (by decide) rfl rfl rfl (Nat.le_of_ble_eq_true rfl) (Nat.le_of_ble_eq_true rfl) ((g_X9_see h1222 hI (h1222.1 96 8) (by omega)).mono (fun r1246 h1247 p1248 => ?_))
                          obtain ⟨rfl, x1250, rfl, (q1251 | q1251), zq1249, -⟩ := p1248
                          · show RUN d_X9_advance 91 [(1, .inl x916), (0, .inr (.inr (.inl 96)))] [.inl x1250] h1222 _
                            have sy1252 : (h902.1 96 8).toInt + 1 ≤ (h1222.1 96 8).toInt ∨ x1250.toInt = x916.toInt := Or.elim m1244 Or.inl (fun c => Or.inr (by rw [zq1249, m1243, c, ← sz932]))
                            refine N_i2l rfl (fun w1253 q1254 => ?_)
                            refine R_ldc2 (x := 97) rfl kt_9_155 ?_
                            refine R_ldc2 (x := 122) rfl kt_9_157 ?_
                            have k1255 : (97 : Int64).toInt = 97 := by decide
                            have k1256 : (122 : Int64).toInt = 122 := by decide
                            refine R_callS (As := [.inr (.inl w1253), .inr (.inl 97), .inr (.inl 122)]) (rest := []) rfl mt_9_i125 (by decide) pp_X9_in (by decide) rfl rfl (Nat.le_of_ble_eq_true rfl) (Nat.le_of_ble_eq_true rfl) ((k_X9_in h1222 hI w1253 (97 : Int64) (122 : Int64)).mono (fun r1257 h1258 p1259 => ?_))
                            obtain ⟨rfl, x1260, rfl, q1261 | q1261 | q1261⟩ := p1259
                            · show RUN d_X9_advance 101 [(1, .inl x916), (0, .inr (.inr (.inl 96)))] [.inl x1260] h1222 _
                              refine N_if_eq (a := x1260.toInt) 117 rfl rfl rfl (fun c1262 => ?_) (fun c1262 => ?_)
                              · refine R_aload_n (k := 0) rfl rfl rfl ?_
                                refine R_iconst 1 rfl rfl ?_
                                refine K_putf (j := 10) (lo := (-2147483648)) (hi' := 2147483647) rfl ft_9_152 sh_96 rfl hI (by decide) rfl (by decide) fr (by decide) (fun h1263 g1264 hI fr => ?_)
                                have fl1223 : FR [96] h902 h1263 := by rw [g1264]; exact FR_wI _ _ fl1223 (by decide)
                                have fl8 : FR [96] h h1263 := by rw [g1264]; exact FR_wI _ _ fl8 (by decide)
                                have s1265 : (h1263.1 96 7).toInt = (h1222.1 96 7).toInt := by rw [g1264, wI_at (by decide)]
                                have s1266 : (h1263.1 96 5).toInt = (h1222.1 96 5).toInt := by rw [g1264, wI_at (by decide)]
                                have s1267 : (h1263.1 96 8).toInt = (h1222.1 96 8).toInt := by rw [g1264, wI_at (by decide)]
                                have s1268 : (h1263.1 96 12).toInt = (h1222.1 96 12).toInt := by rw [g1264, wI_at (by decide)]
                                have s1269 : (h1263.1 96 13).toInt = (h1222.1 96 13).toInt := by rw [g1264, wI_at (by decide)]
                                have s1270 : (h1263.1 96 11).toInt = (h1222.1 96 11).toInt := by rw [g1264, wI_at (by decide)]
                                have s1271 : (h1263.1 96 9).toInt = (h1222.1 96 9).toInt := by rw [g1264, wI_at (by decide)]
                                have s1272 : (h1263.1 96 10).toInt = 1 := by rw [g1264, wI_is]; rfl
                                refine R_goto 239 rfl rfl ?_
                                exact R_vret rfl rfl ⟨hI, fr, ⟨by omega, by omega, by omega, by omega, by omega, by omega, trivial⟩, rfl⟩
                              · exfalso; omega
                            · exfalso; omega
                            · exfalso; omega
                          · show RUN d_X9_advance 91 [(1, .inl x916), (0, .inr (.inr (.inl 96)))] [.inl x1250] h1222 _
                            have sy1273 : (h902.1 96 8).toInt + 1 ≤ (h1222.1 96 8).toInt ∨ x1250.toInt = x916.toInt := Or.elim m1244 Or.inl (fun c => Or.inr (by rw [zq1249, m1243, c, ← sz932]))
                            refine N_i2l rfl (fun w1274 q1275 => ?_)
                            refine R_ldc2 (x := 97) rfl kt_9_155 ?_
                            refine R_ldc2 (x := 122) rfl kt_9_157 ?_
                            have k1276 : (97 : Int64).toInt = 97 := by decide
                            have k1277 : (122 : Int64).toInt = 122 := by decide
                            refine R_callS (As := [.inr (.inl w1274), .inr (.inl 97), .inr (.inl 122)]) (rest := []) rfl mt_9_i125 (by decide) pp_X9_in (by decide) rfl rfl (Nat.le_of_ble_eq_true rfl) (Nat.le_of_ble_eq_true rfl) ((k_X9_in h1222 hI w1274 (97 : Int64) (122 : Int64)).mono (fun r1278 h1279 p1280 => ?_))
                            obtain ⟨rfl, x1281, rfl, q1282 | q1282 | q1282⟩ := p1280
                            · show RUN d_X9_advance 101 [(1, .inl x916), (0, .inr (.inr (.inl 96)))] [.inl x1281] h1222 _
                              refine N_if_eq (a := x1281.toInt) 117 rfl rfl rfl (fun c1283 => ?_) (fun c1283 => ?_)
                              · refine R_aload_n (k := 0) rfl rfl rfl ?_
                                refine R_iconst 1 rfl rfl ?_
                                refine K_putf (j := 10) (lo := (-2147483648)) (hi' := 2147483647) rfl ft_9_152 sh_96 rfl hI (by decide) rfl (by decide) fr (by decide) (fun h1284 g1285 hI fr => ?_)
                                have fl1223 : FR [96] h902 h1284 := by rw [g1285]; exact FR_wI _ _ fl1223 (by decide)
                                have fl8 : FR [96] h h1284 := by rw [g1285]; exact FR_wI _ _ fl8 (by decide)
                                have s1286 : (h1284.1 96 7).toInt = (h1222.1 96 7).toInt := by rw [g1285, wI_at (by decide)]
                                have s1287 : (h1284.1 96 5).toInt = (h1222.1 96 5).toInt := by rw [g1285, wI_at (by decide)]
                                have s1288 : (h1284.1 96 8).toInt = (h1222.1 96 8).toInt := by rw [g1285, wI_at (by decide)]
                                have s1289 : (h1284.1 96 12).toInt = (h1222.1 96 12).toInt := by rw [g1285, wI_at (by decide)]
                                have s1290 : (h1284.1 96 13).toInt = (h1222.1 96 13).toInt := by rw [g1285, wI_at (by decide)]
                                have s1291 : (h1284.1 96 11).toInt = (h1222.1 96 11).toInt := by rw [g1285, wI_at (by decide)]
                                have s1292 : (h1284.1 96 9).toInt = (h1222.1 96 9).toInt := by rw [g1285, wI_at (by decide)]
                                have s1293 : (h1284.1 96 10).toInt = 1 := by rw [g1285, wI_is]; rfl
                                refine R_goto 239 rfl rfl ?_
                                exact R_vret rfl rfl ⟨hI, fr, ⟨by omega, by omega, by omega, by omega, by omega, by omega, trivial⟩, rfl⟩
                              · exfalso; omega
                            · show RUN d_X9_advance 101 [(1, .inl x916), (0, .inr (.inr (.inl 96)))] [.inl x1281] h1222 _
                              refine N_if_eq (a := x1281.toInt) 117 rfl rfl rfl (fun c1294 => ?_) (fun c1294 => ?_)
                              · refine R_aload_n (k := 0) rfl rfl rfl ?_
                                refine R_iconst 1 rfl rfl ?_
                                refine K_putf (j := 10) (lo := (-2147483648)) (hi' := 2147483647) rfl ft_9_152 sh_96 rfl hI (by decide) rfl (by decide) fr (by decide) (fun h1295 g1296 hI fr => ?_)
                                have fl1223 : FR [96] h902 h1295 := by rw [g1296]; exact FR_wI _ _ fl1223 (by decide)
                                have fl8 : FR [96] h h1295 := by rw [g1296]; exact FR_wI _ _ fl8 (by decide)
                                have s1297 : (h1295.1 96 7).toInt = (h1222.1 96 7).toInt := by rw [g1296, wI_at (by decide)]
                                have s1298 : (h1295.1 96 5).toInt = (h1222.1 96 5).toInt := by rw [g1296, wI_at (by decide)]
                                have s1299 : (h1295.1 96 8).toInt = (h1222.1 96 8).toInt := by rw [g1296, wI_at (by decide)]
                                have s1300 : (h1295.1 96 12).toInt = (h1222.1 96 12).toInt := by rw [g1296, wI_at (by decide)]
                                have s1301 : (h1295.1 96 13).toInt = (h1222.1 96 13).toInt := by rw [g1296, wI_at (by decide)]
                                have s1302 : (h1295.1 96 11).toInt = (h1222.1 96 11).toInt := by rw [g1296, wI_at (by decide)]
                                have s1303 : (h1295.1 96 9).toInt = (h1222.1 96 9).toInt := by rw [g1296, wI_at (by decide)]
                                have s1304 : (h1295.1 96 10).toInt = 1 := by rw [g1296, wI_is]; rfl
                                refine R_goto 239 rfl rfl ?_
                                exact R_vret rfl rfl ⟨hI, fr, ⟨by omega, by omega, by omega, by omega, by omega, by omega, trivial⟩, rfl⟩
                              · exfalso; omega
                            · show RUN d_X9_advance 101 [(1, .inl x916), (0, .inr (.inr (.inl 96)))] [.inl x1281] h1222 _
                              refine N_if_eq (a := x1281.toInt) 117 rfl rfl rfl (fun c1305 => ?_) (fun c1305 => ?_)
                              · exfalso; omega
                              · refine R_aload_n (k := 0) rfl rfl rfl ?_
                                refine R_dup_r rfl ?_
                                refine R_getf_i (j := 8) rfl ft_9_142 sh_96 rfl ?_
                                refine R_iconst 1 rfl rfl ?_
                                refine N_iadd (a := (h1222.1 96 8).toInt) (b := 1) rfl rfl (by decide) (by omega) (fun x1306 q1307 => ?_)
                                refine K_putf (j := 8) (lo := 0) (hi' := 500) rfl ft_9_142 sh_96 rfl hI (by decide) rfl (by omega) fr (by decide) (fun h1308 g1309 hI fr => ?_)
                                have fl1223 : FR [96] h902 h1308 := by rw [g1309]; exact FR_wI _ _ fl1223 (by decide)
                                have fl8 : FR [96] h h1308 := by rw [g1309]; exact FR_wI _ _ fl8 (by decide)
                                have s1310 : (h1308.1 96 7).toInt = (h1222.1 96 7).toInt := by rw [g1309, wI_at (by decide)]
                                have s1311 : (h1308.1 96 5).toInt = (h1222.1 96 5).toInt := by rw [g1309, wI_at (by decide)]
                                have s1312 : (h1308.1 96 12).toInt = (h1222.1 96 12).toInt := by rw [g1309, wI_at (by decide)]
                                have s1313 : (h1308.1 96 13).toInt = (h1222.1 96 13).toInt := by rw [g1309, wI_at (by decide)]
                                have s1314 : (h1308.1 96 10).toInt = (h1222.1 96 10).toInt := by rw [g1309, wI_at (by decide)]
                                have s1315 : (h1308.1 96 11).toInt = (h1222.1 96 11).toInt := by rw [g1309, wI_at (by decide)]
                                have s1316 : (h1308.1 96 9).toInt = (h1222.1 96 9).toInt := by rw [g1309, wI_at (by decide)]
                                have s1317 : (h1308.1 96 8).toInt = x1306.toInt := by rw [g1309, wI_is]
                                refine R_goto 83 rfl rfl ?_
                                exact RUN_weak (psub_cons rfl (psub_cons rfl (psub_nil _))) (ih1224 h1308 hI fr fl1223 (by omega) (by omega) (by omega) (by omega) (by omega) (by omega) (by omega) trivial (by omega) (by omega) (by omega) (by omega) (by omega) (by omega) (by omega) (by rw [g1309, seeF_w (by decide)]; exact m1243) (Or.inl (by omega)) (by omega) (by omega))
                      exact lp1221 _ h902 hI fr (FR.rf _ _) rfl rfl rfl rfl rfl rfl (by omega) trivial (by omega) (by omega) (by omega) (by omega) (by omega) (by omega) (by omega) (sS931) (Or.inr rfl) (by omega) (Nat.lt_succ_self _)
                · exfalso; omega
            · exfalso; omega
          · show RUN d_X9_advance 21 [(0, .inr (.inr (.inl 96)))] [.inl x899] h7 _
            refine R_bipush 10 rfl rfl ?_
            refine N_icmp_ne (a := x899.toInt) (b := 10) 39 rfl rfl rfl (by decide) (fun c1318 => ?_) (fun c1318 => ?_)
            · refine R_aload_n (k := 0) rfl rfl rfl ?_
              refine R_aload_n (k := 0) rfl rfl rfl ?_
              refine R_getf_i (j := 8) rfl ft_9_142 sh_96 rfl ?_
              refine K_putf (j := 9) (lo := 0) (hi' := 500) rfl ft_9_149 sh_96 rfl hI (by decide) rfl (by omega) fr (by decide) (fun h1319 g1320 hI fr => ?_)
              have fl8 : FR [96] h h1319 := by rw [g1320]; exact FR_wI _ _ fl8 (by decide)
              have s1321 : (h1319.1 96 7).toInt = (h7.1 96 7).toInt := by rw [g1320, wI_at (by decide)]
              have s1322 : (h1319.1 96 5).toInt = (h7.1 96 5).toInt := by rw [g1320, wI_at (by decide)]
              have s1323 : (h1319.1 96 8).toInt = (h7.1 96 8).toInt := by rw [g1320, wI_at (by decide)]
              have s1324 : (h1319.1 96 12).toInt = (h7.1 96 12).toInt := by rw [g1320, wI_at (by decide)]
              have s1325 : (h1319.1 96 13).toInt = (h7.1 96 13).toInt := by rw [g1320, wI_at (by decide)]
              have s1326 : (h1319.1 96 10).toInt = (h7.1 96 10).toInt := by rw [g1320, wI_at (by decide)]
              have s1327 : (h1319.1 96 11).toInt = (h7.1 96 11).toInt := by rw [g1320, wI_at (by decide)]
              have s1328 : (h1319.1 96 9).toInt = (h7.1 96 8).toInt := by rw [g1320, wI_is]
              refine R_aload_n (k := 0) rfl rfl rfl ?_
              refine R_aload_n (k := 0) rfl rfl rfl ?_
              refine R_getf_i (j := 8) rfl ft_9_142 sh_96 rfl ?_
              refine R_callV (v := .inr (.inr (.inl 96))) (As := [.inl (h1319.1 96 8)]) (rest := []) rfl mt_9_i145 pp_X9_see (by decide) rfl rfl rfl (Nat.le_of_ble_eq_true rfl) (Nat.le_of_ble_eq_true rfl) ((g_X9_see h1319 hI (h1319.1 96 8) (by omega)).mono (fun r1329 h1330 p1331 => ?_))
              obtain ⟨rfl, x1333, rfl, (q1334 | q1334), zq1332, -⟩ := p1331
              · show RUN d_X9_advance 55 [(0, .inr (.inr (.inl 96)))] [.inl x1333] h1319 _
                refine R_istore_n (k := 1) rfl [(1, .inl x1333), (0, .inr (.inr (.inl 96)))] rfl rfl (by decide) ?_
                have sS1335 : seeF h1319 = seeF h := by rw [g1320, seeF_w (by decide)]; exact m20
                have sz1336 : x1333 = seeF h (h1319.1 96 8) := by rw [← sS1335]; exact zq1332
                refine R_iload_n (k := 1) rfl rfl rfl ?_
                refine R_iconst (-1) rfl rfl ?_
                refine N_icmp_ne (a := x1333.toInt) (b := (-1)) 69 rfl rfl rfl (by decide) (fun c1337 => ?_) (fun c1337 => ?_)
                · exfalso; omega
                · refine R_aload_n (k := 0) rfl rfl rfl ?_
                  refine R_iconst 0 rfl rfl ?_
                  refine K_putf (j := 10) (lo := (-2147483648)) (hi' := 2147483647) rfl ft_9_152 sh_96 rfl hI (by decide) rfl (by decide) fr (by decide) (fun h1338 g1339 hI fr => ?_)
                  have fl8 : FR [96] h h1338 := by rw [g1339]; exact FR_wI _ _ fl8 (by decide)
                  have s1340 : (h1338.1 96 7).toInt = (h1319.1 96 7).toInt := by rw [g1339, wI_at (by decide)]
                  have s1341 : (h1338.1 96 5).toInt = (h1319.1 96 5).toInt := by rw [g1339, wI_at (by decide)]
                  have s1342 : (h1338.1 96 8).toInt = (h1319.1 96 8).toInt := by rw [g1339, wI_at (by decide)]
                  have s1343 : (h1338.1 96 12).toInt = (h1319.1 96 12).toInt := by rw [g1339, wI_at (by decide)]
                  have s1344 : (h1338.1 96 13).toInt = (h1319.1 96 13).toInt := by rw [g1339, wI_at (by decide)]
                  have s1345 : (h1338.1 96 11).toInt = (h1319.1 96 11).toInt := by rw [g1339, wI_at (by decide)]
                  have s1346 : (h1338.1 96 9).toInt = (h1319.1 96 9).toInt := by rw [g1339, wI_at (by decide)]
                  have s1347 : (h1338.1 96 10).toInt = 0 := by rw [g1339, wI_is]; rfl
                  refine R_goto 239 rfl rfl ?_
                  exact R_vret rfl rfl ⟨hI, fr, ⟨by omega, by omega, by omega, by omega, by omega, by omega, trivial⟩, rfl⟩
              · show RUN d_X9_advance 55 [(0, .inr (.inr (.inl 96)))] [.inl x1333] h1319 _
                refine R_istore_n (k := 1) rfl [(1, .inl x1333), (0, .inr (.inr (.inl 96)))] rfl rfl (by decide) ?_
                have sS1348 : seeF h1319 = seeF h := by rw [g1320, seeF_w (by decide)]; exact m20
                have sz1349 : x1333 = seeF h (h1319.1 96 8) := by rw [← sS1348]; exact zq1332
                refine R_iload_n (k := 1) rfl rfl rfl ?_
                refine R_iconst (-1) rfl rfl ?_
                refine N_icmp_ne (a := x1333.toInt) (b := (-1)) 69 rfl rfl rfl (by decide) (fun c1350 => ?_) (fun c1350 => ?_)
                · refine R_iload_n (k := 1) rfl rfl rfl ?_
                  refine N_i2l rfl (fun w1351 q1352 => ?_)
                  refine R_ldc2 (x := 97) rfl kt_9_155 ?_
                  refine R_ldc2 (x := 122) rfl kt_9_157 ?_
                  have k1353 : (97 : Int64).toInt = 97 := by decide
                  have k1354 : (122 : Int64).toInt = 122 := by decide
                  refine R_callS (As := [.inr (.inl w1351), .inr (.inl 97), .inr (.inl 122)]) (rest := []) rfl mt_9_i125 (by decide) pp_X9_in (by decide) rfl rfl (Nat.le_of_ble_eq_true rfl) (Nat.le_of_ble_eq_true rfl) ((k_X9_in h1319 hI w1351 (97 : Int64) (122 : Int64)).mono (fun r1355 h1356 p1357 => ?_))
                  obtain ⟨rfl, x1358, rfl, q1359 | q1359 | q1359⟩ := p1357
                  · show RUN d_X9_advance 80 [(1, .inl x1333), (0, .inr (.inr (.inl 96)))] [.inl x1358] h1319 _
                    refine N_if_eq (a := x1358.toInt) 125 rfl rfl rfl (fun c1360 => ?_) (fun c1360 => ?_)
                    · refine R_iload_n (k := 1) rfl rfl rfl ?_
                      refine N_i2l rfl (fun w1361 q1362 => ?_)
                      refine R_ldc2 (x := 48) rfl kt_9_159 ?_
                      refine R_ldc2 (x := 57) rfl kt_9_161 ?_
                      have k1363 : (48 : Int64).toInt = 48 := by decide
                      have k1364 : (57 : Int64).toInt = 57 := by decide
                      refine R_callS (As := [.inr (.inl w1361), .inr (.inl 48), .inr (.inl 57)]) (rest := []) rfl mt_9_i125 (by decide) pp_X9_in (by decide) rfl rfl (Nat.le_of_ble_eq_true rfl) (Nat.le_of_ble_eq_true rfl) ((k_X9_in h1319 hI w1361 (48 : Int64) (57 : Int64)).mono (fun r1365 h1366 p1367 => ?_))
                      obtain ⟨rfl, x1368, rfl, q1369 | q1369 | q1369⟩ := p1367
                      · show RUN d_X9_advance 136 [(1, .inl x1333), (0, .inr (.inr (.inl 96)))] [.inl x1368] h1319 _
                        refine N_if_eq (a := x1368.toInt) 214 rfl rfl rfl (fun c1370 => ?_) (fun c1370 => ?_)
                        · refine R_aload_n (k := 0) rfl rfl rfl ?_
                          refine R_iload_n (k := 1) rfl rfl rfl ?_
                          refine R_bipush 59 rfl rfl ?_
                          refine N_icmp_ne (a := x1333.toInt) (b := 59) 225 rfl rfl rfl (by decide) (fun c1371 => ?_) (fun c1371 => ?_)
                          · refine R_iconst 4 rfl rfl ?_
                            refine K_putf (j := 10) (lo := (-2147483648)) (hi' := 2147483647) rfl ft_9_152 sh_96 rfl hI (by decide) rfl (by decide) fr (by decide) (fun h1372 g1373 hI fr => ?_)
                            have fl8 : FR [96] h h1372 := by rw [g1373]; exact FR_wI _ _ fl8 (by decide)
                            have s1374 : (h1372.1 96 7).toInt = (h1319.1 96 7).toInt := by rw [g1373, wI_at (by decide)]
                            have s1375 : (h1372.1 96 5).toInt = (h1319.1 96 5).toInt := by rw [g1373, wI_at (by decide)]
                            have s1376 : (h1372.1 96 8).toInt = (h1319.1 96 8).toInt := by rw [g1373, wI_at (by decide)]
                            have s1377 : (h1372.1 96 12).toInt = (h1319.1 96 12).toInt := by rw [g1373, wI_at (by decide)]
                            have s1378 : (h1372.1 96 13).toInt = (h1319.1 96 13).toInt := by rw [g1373, wI_at (by decide)]
                            have s1379 : (h1372.1 96 11).toInt = (h1319.1 96 11).toInt := by rw [g1373, wI_at (by decide)]
                            have s1380 : (h1372.1 96 9).toInt = (h1319.1 96 9).toInt := by rw [g1373, wI_at (by decide)]
                            have s1381 : (h1372.1 96 10).toInt = 4 := by rw [g1373, wI_is]; rfl
                            refine R_aload_n (k := 0) rfl rfl rfl ?_
                            refine R_dup_r rfl ?_
                            refine R_getf_i (j := 8) rfl ft_9_142 sh_96 rfl ?_
                            refine R_iconst 1 rfl rfl ?_
                            refine N_iadd (a := (h1372.1 96 8).toInt) (b := 1) rfl rfl (by decide) (by omega) (fun x1382 q1383 => ?_)
                            refine K_putf (j := 8) (lo := 0) (hi' := 500) rfl ft_9_142 sh_96 rfl hI (by decide) rfl (by omega) fr (by decide) (fun h1384 g1385 hI fr => ?_)
                            have fl8 : FR [96] h h1384 := by rw [g1385]; exact FR_wI _ _ fl8 (by decide)
                            have s1386 : (h1384.1 96 7).toInt = (h1372.1 96 7).toInt := by rw [g1385, wI_at (by decide)]
                            have s1387 : (h1384.1 96 5).toInt = (h1372.1 96 5).toInt := by rw [g1385, wI_at (by decide)]
                            have s1388 : (h1384.1 96 12).toInt = (h1372.1 96 12).toInt := by rw [g1385, wI_at (by decide)]
                            have s1389 : (h1384.1 96 13).toInt = (h1372.1 96 13).toInt := by rw [g1385, wI_at (by decide)]
                            have s1390 : (h1384.1 96 11).toInt = (h1372.1 96 11).toInt := by rw [g1385, wI_at (by decide)]
                            have s1391 : (h1384.1 96 9).toInt = (h1372.1 96 9).toInt := by rw [g1385, wI_at (by decide)]
                            have s1392 : (h1384.1 96 10).toInt = (h1372.1 96 10).toInt := by rw [g1385, wI_at (by decide)]
                            have s1393 : (h1384.1 96 8).toInt = x1382.toInt := by rw [g1385, wI_is]
                            exact R_vret rfl rfl ⟨hI, fr, ⟨by omega, by omega, by omega, by omega, by omega, by omega, trivial⟩, rfl⟩
                          · exfalso; omega
                        · exfalso; omega
                      · show RUN d_X9_advance 136 [(1, .inl x1333), (0, .inr (.inr (.inl 96)))] [.inl x1368] h1319 _
                        refine N_if_eq (a := x1368.toInt) 214 rfl rfl rfl (fun c1394 => ?_) (fun c1394 => ?_)
                        · refine R_aload_n (k := 0) rfl rfl rfl ?_
                          refine R_iload_n (k := 1) rfl rfl rfl ?_
                          refine R_bipush 59 rfl rfl ?_
                          refine N_icmp_ne (a := x1333.toInt) (b := 59) 225 rfl rfl rfl (by decide) (fun c1395 => ?_) (fun c1395 => ?_)
                          · refine R_iconst 4 rfl rfl ?_
                            refine K_putf (j := 10) (lo := (-2147483648)) (hi' := 2147483647) rfl ft_9_152 sh_96 rfl hI (by decide) rfl (by decide) fr (by decide) (fun h1396 g1397 hI fr => ?_)
                            have fl8 : FR [96] h h1396 := by rw [g1397]; exact FR_wI _ _ fl8 (by decide)
                            have s1398 : (h1396.1 96 7).toInt = (h1319.1 96 7).toInt := by rw [g1397, wI_at (by decide)]
                            have s1399 : (h1396.1 96 5).toInt = (h1319.1 96 5).toInt := by rw [g1397, wI_at (by decide)]
                            have s1400 : (h1396.1 96 8).toInt = (h1319.1 96 8).toInt := by rw [g1397, wI_at (by decide)]
                            have s1401 : (h1396.1 96 12).toInt = (h1319.1 96 12).toInt := by rw [g1397, wI_at (by decide)]
                            have s1402 : (h1396.1 96 13).toInt = (h1319.1 96 13).toInt := by rw [g1397, wI_at (by decide)]
                            have s1403 : (h1396.1 96 11).toInt = (h1319.1 96 11).toInt := by rw [g1397, wI_at (by decide)]
                            have s1404 : (h1396.1 96 9).toInt = (h1319.1 96 9).toInt := by rw [g1397, wI_at (by decide)]
                            have s1405 : (h1396.1 96 10).toInt = 4 := by rw [g1397, wI_is]; rfl
                            refine R_aload_n (k := 0) rfl rfl rfl ?_
                            refine R_dup_r rfl ?_
                            refine R_getf_i (j := 8) rfl ft_9_142 sh_96 rfl ?_
                            refine R_iconst 1 rfl rfl ?_
                            refine N_iadd (a := (h1396.1 96 8).toInt) (b := 1) rfl rfl (by decide) (by omega) (fun x1406 q1407 => ?_)
                            refine K_putf (j := 8) (lo := 0) (hi' := 500) rfl ft_9_142 sh_96 rfl hI (by decide) rfl (by omega) fr (by decide) (fun h1408 g1409 hI fr => ?_)
                            have fl8 : FR [96] h h1408 := by rw [g1409]; exact FR_wI _ _ fl8 (by decide)
                            have s1410 : (h1408.1 96 7).toInt = (h1396.1 96 7).toInt := by rw [g1409, wI_at (by decide)]
                            have s1411 : (h1408.1 96 5).toInt = (h1396.1 96 5).toInt := by rw [g1409, wI_at (by decide)]
                            have s1412 : (h1408.1 96 12).toInt = (h1396.1 96 12).toInt := by rw [g1409, wI_at (by decide)]
                            have s1413 : (h1408.1 96 13).toInt = (h1396.1 96 13).toInt := by rw [g1409, wI_at (by decide)]
                            have s1414 : (h1408.1 96 11).toInt = (h1396.1 96 11).toInt := by rw [g1409, wI_at (by decide)]
                            have s1415 : (h1408.1 96 9).toInt = (h1396.1 96 9).toInt := by rw [g1409, wI_at (by decide)]
                            have s1416 : (h1408.1 96 10).toInt = (h1396.1 96 10).toInt := by rw [g1409, wI_at (by decide)]
                            have s1417 : (h1408.1 96 8).toInt = x1406.toInt := by rw [g1409, wI_is]
                            exact R_vret rfl rfl ⟨hI, fr, ⟨by omega, by omega, by omega, by omega, by omega, by omega, trivial⟩, rfl⟩
                          · refine R_iconst 3 rfl rfl ?_
                            refine R_goto 226 rfl rfl ?_
                            refine K_putf (j := 10) (lo := (-2147483648)) (hi' := 2147483647) rfl ft_9_152 sh_96 rfl hI (by decide) rfl (by decide) fr (by decide) (fun h1418 g1419 hI fr => ?_)
                            have fl8 : FR [96] h h1418 := by rw [g1419]; exact FR_wI _ _ fl8 (by decide)
                            have s1420 : (h1418.1 96 7).toInt = (h1319.1 96 7).toInt := by rw [g1419, wI_at (by decide)]
                            have s1421 : (h1418.1 96 5).toInt = (h1319.1 96 5).toInt := by rw [g1419, wI_at (by decide)]
                            have s1422 : (h1418.1 96 8).toInt = (h1319.1 96 8).toInt := by rw [g1419, wI_at (by decide)]
                            have s1423 : (h1418.1 96 12).toInt = (h1319.1 96 12).toInt := by rw [g1419, wI_at (by decide)]
                            have s1424 : (h1418.1 96 13).toInt = (h1319.1 96 13).toInt := by rw [g1419, wI_at (by decide)]
                            have s1425 : (h1418.1 96 11).toInt = (h1319.1 96 11).toInt := by rw [g1419, wI_at (by decide)]
                            have s1426 : (h1418.1 96 9).toInt = (h1319.1 96 9).toInt := by rw [g1419, wI_at (by decide)]
                            have s1427 : (h1418.1 96 10).toInt = 3 := by rw [g1419, wI_is]; rfl
                            refine R_aload_n (k := 0) rfl rfl rfl ?_
                            refine R_dup_r rfl ?_
                            refine R_getf_i (j := 8) rfl ft_9_142 sh_96 rfl ?_
                            refine R_iconst 1 rfl rfl ?_
                            refine N_iadd (a := (h1418.1 96 8).toInt) (b := 1) rfl rfl (by decide) (by omega) (fun x1428 q1429 => ?_)
                            refine K_putf (j := 8) (lo := 0) (hi' := 500) rfl ft_9_142 sh_96 rfl hI (by decide) rfl (by omega) fr (by decide) (fun h1430 g1431 hI fr => ?_)
                            have fl8 : FR [96] h h1430 := by rw [g1431]; exact FR_wI _ _ fl8 (by decide)
                            have s1432 : (h1430.1 96 7).toInt = (h1418.1 96 7).toInt := by rw [g1431, wI_at (by decide)]
                            have s1433 : (h1430.1 96 5).toInt = (h1418.1 96 5).toInt := by rw [g1431, wI_at (by decide)]
                            have s1434 : (h1430.1 96 12).toInt = (h1418.1 96 12).toInt := by rw [g1431, wI_at (by decide)]
                            have s1435 : (h1430.1 96 13).toInt = (h1418.1 96 13).toInt := by rw [g1431, wI_at (by decide)]
                            have s1436 : (h1430.1 96 11).toInt = (h1418.1 96 11).toInt := by rw [g1431, wI_at (by decide)]
                            have s1437 : (h1430.1 96 9).toInt = (h1418.1 96 9).toInt := by rw [g1431, wI_at (by decide)]
                            have s1438 : (h1430.1 96 10).toInt = (h1418.1 96 10).toInt := by rw [g1431, wI_at (by decide)]
                            have s1439 : (h1430.1 96 8).toInt = x1428.toInt := by rw [g1431, wI_is]
                            exact R_vret rfl rfl ⟨hI, fr, ⟨by omega, by omega, by omega, by omega, by omega, by omega, trivial⟩, rfl⟩
                        · exfalso; omega
                      · show RUN d_X9_advance 136 [(1, .inl x1333), (0, .inr (.inr (.inl 96)))] [.inl x1368] h1319 _
                        refine N_if_eq (a := x1368.toInt) 214 rfl rfl rfl (fun c1440 => ?_) (fun c1440 => ?_)
                        · exfalso; omega
                        · refine R_aload_n (k := 0) rfl rfl rfl ?_
                          refine R_iconst 0 rfl rfl ?_
                          refine K_putf (j := 11) (lo := (-2147483648)) (hi' := 2147483647) rfl ft_9_163 sh_96 rfl hI (by decide) rfl (by decide) fr (by decide) (fun h1441 g1442 hI fr => ?_)
                          have fl8 : FR [96] h h1441 := by rw [g1442]; exact FR_wI _ _ fl8 (by decide)
                          have s1443 : (h1441.1 96 7).toInt = (h1319.1 96 7).toInt := by rw [g1442, wI_at (by decide)]
                          have s1444 : (h1441.1 96 5).toInt = (h1319.1 96 5).toInt := by rw [g1442, wI_at (by decide)]
                          have s1445 : (h1441.1 96 8).toInt = (h1319.1 96 8).toInt := by rw [g1442, wI_at (by decide)]
                          have s1446 : (h1441.1 96 12).toInt = (h1319.1 96 12).toInt := by rw [g1442, wI_at (by decide)]
                          have s1447 : (h1441.1 96 13).toInt = (h1319.1 96 13).toInt := by rw [g1442, wI_at (by decide)]
                          have s1448 : (h1441.1 96 10).toInt = (h1319.1 96 10).toInt := by rw [g1442, wI_at (by decide)]
                          have s1449 : (h1441.1 96 9).toInt = (h1319.1 96 9).toInt := by rw [g1442, wI_at (by decide)]
                          have s1450 : (h1441.1 96 11).toInt = 0 := by rw [g1442, wI_is]; rfl
                          have lp1452 : ∀ (n1451 : Nat) (h1453 : PH), INV h1453 → FR [96] h h1453 → FR [96] h1441 h1453 → (h1453.1 96 7).toInt = (h1441.1 96 7).toInt → (h1453.1 96 5).toInt = (h1441.1 96 5).toInt → (h1453.1 96 12).toInt = (h1441.1 96 12).toInt → (h1453.1 96 13).toInt = (h1441.1 96 13).toInt → (h1453.1 96 9).toInt = (h1441.1 96 9).toInt → 0 ≤ (h1453.1 96 8).toInt ∧ (h1453.1 96 8).toInt ≤ 500 → True → (h1453.1 96 11).toInt ≤ 99999 → (h1453.1 96 8).toInt ≤ (h1441.1 96 7).toInt + 0 → (h1441.1 96 9).toInt ≤ (h1453.1 96 8).toInt + 0 → (seeF h1453 = seeF h) → ((h1319.1 96 8).toInt + 1 ≤ (h1453.1 96 8).toInt ∨ h1453.1 96 8 = h1319.1 96 8) → ((h1319.1 96 8).toInt ≤ (h1453.1 96 8).toInt) → (500 - (h1453.1 96 8).toInt).toNat < n1451 → RUN d_X9_advance 144 [(1, .inl x1333), (0, .inr (.inr (.inl 96)))] [] h1453 (qg_X9_advance h) := by
                            intro n1451
                            induction n1451 with
                            | zero => intro h1453 m1456 m1457 m1458 m1459 m1460 m1461 m1462 m1463 m1464 m1465 m1466 m1467 m1468 m1469 m1470 m1471 hz; exact absurd hz (Nat.not_lt_zero _)
                            | succ n1451 ih1455 =>
                              intro h1453 hI fr fl1454 m1459 m1460 m1461 m1462 m1463 m1464 m1465 m1466 m1467 m1468 m1469 m1470 m1471 hz
                              have fl8 : FR [96] h h1453 := fl8.trans fl1454 (by decide)
                              refine R_aload_n (k := 0) rfl rfl rfl ?_
                              refine R_aload_n (k := 0) rfl rfl rfl ?_
                              refine R_getf_i (j := 8) rfl ft_9_142 sh_96 rfl ?_
                              refine R_callV (v := .inr (.inr (.inl 96))) (As := [.inl (h1453.1 96 8)]) (rest := []) rfl mt_9_i145 pp_X9_see (by decide) rfl rfl rfl (Nat.le_of_ble_eq_true rfl) (Nat.le_of_ble_eq_true rfl) ((g_X9_see h1453 hI (h1453.1 96 8) (by omega)).mono (fun r1472 h1473 p1474 => ?_))
                              obtain ⟨rfl, x1476, rfl, (q1477 | q1477), zq1475, -⟩ := p1474
                              · show RUN d_X9_advance 152 [(1, .inl x1333), (0, .inr (.inr (.inl 96)))] [.inl x1476] h1453 _
                                have sy1478 : (h1319.1 96 8).toInt + 1 ≤ (h1453.1 96 8).toInt ∨ x1476.toInt = x1333.toInt := Or.elim m1470 Or.inl (fun c => Or.inr (by rw [zq1475, m1469, c, ← sz1349]))
                                refine N_i2l rfl (fun w1479 q1480 => ?_)
                                refine R_ldc2 (x := 48) rfl kt_9_159 ?_
                                refine R_ldc2 (x := 57) rfl kt_9_161 ?_
                                have k1481 : (48 : Int64).toInt = 48 := by decide
                                have k1482 : (57 : Int64).toInt = 57 := by decide
                                refine R_callS (As := [.inr (.inl w1479), .inr (.inl 48), .inr (.inl 57)]) (rest := []) rfl mt_9_i125 (by decide) pp_X9_in (by decide) rfl rfl (Nat.le_of_ble_eq_true rfl) (Nat.le_of_ble_eq_true rfl) ((k_X9_in h1453 hI w1479 (48 : Int64) (57 : Int64)).mono (fun r1483 h1484 p1485 => ?_))
                                obtain ⟨rfl, x1486, rfl, q1487 | q1487 | q1487⟩ := p1485
                                · show RUN d_X9_advance 162 [(1, .inl x1333), (0, .inr (.inr (.inl 96)))] [.inl x1486] h1453 _
                                  refine N_if_eq (a := x1486.toInt) 206 rfl rfl rfl (fun c1488 => ?_) (fun c1488 => ?_)
                                  · refine R_aload_n (k := 0) rfl rfl rfl ?_
                                    refine R_iconst 2 rfl rfl ?_
                                    refine K_putf (j := 10) (lo := (-2147483648)) (hi' := 2147483647) rfl ft_9_152 sh_96 rfl hI (by decide) rfl (by decide) fr (by decide) (fun h1489 g1490 hI fr => ?_)
                                    have fl1454 : FR [96] h1441 h1489 := by rw [g1490]; exact FR_wI _ _ fl1454 (by decide)
                                    have fl8 : FR [96] h h1489 := by rw [g1490]; exact FR_wI _ _ fl8 (by decide)
                                    have s1491 : (h1489.1 96 7).toInt = (h1453.1 96 7).toInt := by rw [g1490, wI_at (by decide)]
                                    have s1492 : (h1489.1 96 5).toInt = (h1453.1 96 5).toInt := by rw [g1490, wI_at (by decide)]
                                    have s1493 : (h1489.1 96 8).toInt = (h1453.1 96 8).toInt := by rw [g1490, wI_at (by decide)]
                                    have s1494 : (h1489.1 96 12).toInt = (h1453.1 96 12).toInt := by rw [g1490, wI_at (by decide)]
                                    have s1495 : (h1489.1 96 13).toInt = (h1453.1 96 13).toInt := by rw [g1490, wI_at (by decide)]
                                    have s1496 : (h1489.1 96 9).toInt = (h1453.1 96 9).toInt := by rw [g1490, wI_at (by decide)]
                                    have s1497 : (h1489.1 96 11).toInt = (h1453.1 96 11).toInt := by rw [g1490, wI_at (by decide)]
                                    have s1498 : (h1489.1 96 10).toInt = 2 := by rw [g1490, wI_is]; rfl
                                    refine R_goto 239 rfl rfl ?_
                                    exact R_vret rfl rfl ⟨hI, fr, ⟨by omega, by omega, by omega, by omega, by omega, by omega, trivial⟩, rfl⟩
                                  · exfalso; omega
                                · exfalso; omega
                                · exfalso; omega
                              · show RUN d_X9_advance 152 [(1, .inl x1333), (0, .inr (.inr (.inl 96)))] [.inl x1476] h1453 _
                                have sy1499 : (h1319.1 96 8).toInt + 1 ≤ (h1453.1 96 8).toInt ∨ x1476.toInt = x1333.toInt := Or.elim m1470 Or.inl (fun c => Or.inr (by rw [zq1475, m1469, c, ← sz1349]))
                                refine N_i2l rfl (fun w1500 q1501 => ?_)
                                refine R_ldc2 (x := 48) rfl kt_9_159 ?_
                                refine R_ldc2 (x := 57) rfl kt_9_161 ?_
                                have k1502 : (48 : Int64).toInt = 48 := by decide
                                have k1503 : (57 : Int64).toInt = 57 := by decide
                                refine R_callS (As := [.inr (.inl w1500), .inr (.inl 48), .inr (.inl 57)]) (rest := []) rfl mt_9_i125 (by decide) pp_X9_in (by decide) rfl rfl (Nat.le_of_ble_eq_true rfl) (Nat.le_of_ble_eq_true rfl) ((k_X9_in h1453 hI w1500 (48 : Int64) (57 : Int64)).mono (fun r1504 h1505 p1506 => ?_))
                                obtain ⟨rfl, x1507, rfl, q1508 | q1508 | q1508⟩ := p1506
                                · show RUN d_X9_advance 162 [(1, .inl x1333), (0, .inr (.inr (.inl 96)))] [.inl x1507] h1453 _
                                  refine N_if_eq (a := x1507.toInt) 206 rfl rfl rfl (fun c1509 => ?_) (fun c1509 => ?_)
                                  · refine R_aload_n (k := 0) rfl rfl rfl ?_
                                    refine R_iconst 2 rfl rfl ?_
                                    refine K_putf (j := 10) (lo := (-2147483648)) (hi' := 2147483647) rfl ft_9_152 sh_96 rfl hI (by decide) rfl (by decide) fr (by decide) (fun h1510 g1511 hI fr => ?_)
                                    have fl1454 : FR [96] h1441 h1510 := by rw [g1511]; exact FR_wI _ _ fl1454 (by decide)
                                    have fl8 : FR [96] h h1510 := by rw [g1511]; exact FR_wI _ _ fl8 (by decide)
                                    have s1512 : (h1510.1 96 7).toInt = (h1453.1 96 7).toInt := by rw [g1511, wI_at (by decide)]
                                    have s1513 : (h1510.1 96 5).toInt = (h1453.1 96 5).toInt := by rw [g1511, wI_at (by decide)]
                                    have s1514 : (h1510.1 96 8).toInt = (h1453.1 96 8).toInt := by rw [g1511, wI_at (by decide)]
                                    have s1515 : (h1510.1 96 12).toInt = (h1453.1 96 12).toInt := by rw [g1511, wI_at (by decide)]
                                    have s1516 : (h1510.1 96 13).toInt = (h1453.1 96 13).toInt := by rw [g1511, wI_at (by decide)]
                                    have s1517 : (h1510.1 96 9).toInt = (h1453.1 96 9).toInt := by rw [g1511, wI_at (by decide)]
                                    have s1518 : (h1510.1 96 11).toInt = (h1453.1 96 11).toInt := by rw [g1511, wI_at (by decide)]
                                    have s1519 : (h1510.1 96 10).toInt = 2 := by rw [g1511, wI_is]; rfl
                                    refine R_goto 239 rfl rfl ?_
                                    exact R_vret rfl rfl ⟨hI, fr, ⟨by omega, by omega, by omega, by omega, by omega, by omega, trivial⟩, rfl⟩
                                  · exfalso; omega
                                · show RUN d_X9_advance 162 [(1, .inl x1333), (0, .inr (.inr (.inl 96)))] [.inl x1507] h1453 _
                                  refine N_if_eq (a := x1507.toInt) 206 rfl rfl rfl (fun c1520 => ?_) (fun c1520 => ?_)
                                  · refine R_aload_n (k := 0) rfl rfl rfl ?_
                                    refine R_iconst 2 rfl rfl ?_
                                    refine K_putf (j := 10) (lo := (-2147483648)) (hi' := 2147483647) rfl ft_9_152 sh_96 rfl hI (by decide) rfl (by decide) fr (by decide) (fun h1521 g1522 hI fr => ?_)
                                    have fl1454 : FR [96] h1441 h1521 := by rw [g1522]; exact FR_wI _ _ fl1454 (by decide)
                                    have fl8 : FR [96] h h1521 := by rw [g1522]; exact FR_wI _ _ fl8 (by decide)
                                    have s1523 : (h1521.1 96 7).toInt = (h1453.1 96 7).toInt := by rw [g1522, wI_at (by decide)]
                                    have s1524 : (h1521.1 96 5).toInt = (h1453.1 96 5).toInt := by rw [g1522, wI_at (by decide)]
                                    have s1525 : (h1521.1 96 8).toInt = (h1453.1 96 8).toInt := by rw [g1522, wI_at (by decide)]
                                    have s1526 : (h1521.1 96 12).toInt = (h1453.1 96 12).toInt := by rw [g1522, wI_at (by decide)]
                                    have s1527 : (h1521.1 96 13).toInt = (h1453.1 96 13).toInt := by rw [g1522, wI_at (by decide)]
                                    have s1528 : (h1521.1 96 9).toInt = (h1453.1 96 9).toInt := by rw [g1522, wI_at (by decide)]
                                    have s1529 : (h1521.1 96 11).toInt = (h1453.1 96 11).toInt := by rw [g1522, wI_at (by decide)]
                                    have s1530 : (h1521.1 96 10).toInt = 2 := by rw [g1522, wI_is]; rfl
                                    refine R_goto 239 rfl rfl ?_
                                    exact R_vret rfl rfl ⟨hI, fr, ⟨by omega, by omega, by omega, by omega, by omega, by omega, trivial⟩, rfl⟩
                                  · exfalso; omega
                                · show RUN d_X9_advance 162 [(1, .inl x1333), (0, .inr (.inr (.inl 96)))] [.inl x1507] h1453 _
                                  refine N_if_eq (a := x1507.toInt) 206 rfl rfl rfl (fun c1531 => ?_) (fun c1531 => ?_)
                                  · exfalso; omega
                                  · refine R_aload_n (k := 0) rfl rfl rfl ?_
                                    refine R_ldc_i (x := 99999) rfl kt_9_166 ?_
                                    refine R_bipush 10 rfl rfl ?_
                                    refine R_aload_n (k := 0) rfl rfl rfl ?_
                                    refine R_getf_i (j := 11) rfl ft_9_163 sh_96 rfl ?_
                                    have b1532 := i_rng (h1453.1 96 11)
                                    refine R_imul rfl ?_
                                    refine N_any (fun x1533 => ?_)
                                    refine R_aload_n (k := 0) rfl rfl rfl ?_
                                    refine R_aload_n (k := 0) rfl rfl rfl ?_
                                    refine R_getf_i (j := 8) rfl ft_9_142 sh_96 rfl ?_
                                    refine R_callV (v := .inr (.inr (.inl 96))) (As := [.inl (h1453.1 96 8)]) (rest := [.inl x1533, .inl 99999, .inr (.inr (.inl 96))]) rfl mt_9_i145 pp_X9_see (by decide) rfl rfl rfl (Nat.le_of_ble_eq_true rfl) (Nat.le_of_ble_eq_true rfl) ((g_X9_see h1453 hI (h1453.1 96 8) (by omega)).mono (fun r1534 h1535 p1536 => ?_))
                                    obtain ⟨rfl, x1538, rfl, (q1539 | q1539), zq1537, -⟩ := p1536
                                    · show RUN d_X9_advance 183 [(1, .inl x1333), (0, .inr (.inr (.inl 96)))] [.inl x1538, .inl x1533, .inl 99999, .inr (.inr (.inl 96))] h1453 _
                                      have b1540 := i_rng x1533
                                      refine R_iadd rfl ?_
                                      refine N_any (fun x1541 => ?_)
                                      refine R_bipush 48 rfl rfl ?_
                                      have b1542 := i_rng x1541
                                      refine R_isub rfl ?_
                                      refine N_any (fun x1543 => ?_)
                                      refine N_min (a := 99999) (b := x1543.toInt) rfl mt_9_i167 (by decide) rfl ⟨by decide, by decide, Nat.le_of_ble_eq_true rfl⟩ (fun x1544 q1545 => ?_)
                                      refine K_putf (j := 11) (lo := (-2147483648)) (hi' := 2147483647) rfl ft_9_163 sh_96 rfl hI (by decide) rfl (i_rng _) fr (by decide) (fun h1546 g1547 hI fr => ?_)
                                      have fl1454 : FR [96] h1441 h1546 := by rw [g1547]; exact FR_wI _ _ fl1454 (by decide)
                                      have fl8 : FR [96] h h1546 := by rw [g1547]; exact FR_wI _ _ fl8 (by decide)
                                      have s1548 : (h1546.1 96 7).toInt = (h1453.1 96 7).toInt := by rw [g1547, wI_at (by decide)]
                                      have s1549 : (h1546.1 96 5).toInt = (h1453.1 96 5).toInt := by rw [g1547, wI_at (by decide)]
                                      have s1550 : (h1546.1 96 8).toInt = (h1453.1 96 8).toInt := by rw [g1547, wI_at (by decide)]
                                      have s1551 : (h1546.1 96 12).toInt = (h1453.1 96 12).toInt := by rw [g1547, wI_at (by decide)]
                                      have s1552 : (h1546.1 96 13).toInt = (h1453.1 96 13).toInt := by rw [g1547, wI_at (by decide)]
                                      have s1553 : (h1546.1 96 10).toInt = (h1453.1 96 10).toInt := by rw [g1547, wI_at (by decide)]
                                      have s1554 : (h1546.1 96 9).toInt = (h1453.1 96 9).toInt := by rw [g1547, wI_at (by decide)]
                                      have s1555 : (h1546.1 96 11).toInt = x1544.toInt := by rw [g1547, wI_is]
                                      refine R_aload_n (k := 0) rfl rfl rfl ?_
                                      refine R_dup_r rfl ?_
                                      refine R_getf_i (j := 8) rfl ft_9_142 sh_96 rfl ?_
                                      refine R_iconst 1 rfl rfl ?_
                                      refine N_iadd (a := (h1546.1 96 8).toInt) (b := 1) rfl rfl (by decide) (by omega) (fun x1556 q1557 => ?_)
                                      refine K_putf (j := 8) (lo := 0) (hi' := 500) rfl ft_9_142 sh_96 rfl hI (by decide) rfl (by omega) fr (by decide) (fun h1558 g1559 hI fr => ?_)
                                      have fl1454 : FR [96] h1441 h1558 := by rw [g1559]; exact FR_wI _ _ fl1454 (by decide)
                                      have fl8 : FR [96] h h1558 := by rw [g1559]; exact FR_wI _ _ fl8 (by decide)
                                      have s1560 : (h1558.1 96 7).toInt = (h1546.1 96 7).toInt := by rw [g1559, wI_at (by decide)]
                                      have s1561 : (h1558.1 96 5).toInt = (h1546.1 96 5).toInt := by rw [g1559, wI_at (by decide)]
                                      have s1562 : (h1558.1 96 12).toInt = (h1546.1 96 12).toInt := by rw [g1559, wI_at (by decide)]
                                      have s1563 : (h1558.1 96 13).toInt = (h1546.1 96 13).toInt := by rw [g1559, wI_at (by decide)]
                                      have s1564 : (h1558.1 96 10).toInt = (h1546.1 96 10).toInt := by rw [g1559, wI_at (by decide)]
                                      have s1565 : (h1558.1 96 9).toInt = (h1546.1 96 9).toInt := by rw [g1559, wI_at (by decide)]
                                      have s1566 : (h1558.1 96 11).toInt = (h1546.1 96 11).toInt := by rw [g1559, wI_at (by decide)]
                                      have s1567 : (h1558.1 96 8).toInt = x1556.toInt := by rw [g1559, wI_is]
                                      refine R_goto 144 rfl rfl ?_
                                      exact RUN_weak (psub_cons rfl (psub_cons rfl (psub_nil _))) (ih1455 h1558 hI fr fl1454 (by omega) (by omega) (by omega) (by omega) (by omega) (by omega) trivial (by omega) (by omega) (by omega) (by rw [g1559, seeF_w (by decide), g1547, seeF_w (by decide)]; exact m1469) (Or.inl (by omega)) (by omega) (by omega))
                                    · show RUN d_X9_advance 183 [(1, .inl x1333), (0, .inr (.inr (.inl 96)))] [.inl x1538, .inl x1533, .inl 99999, .inr (.inr (.inl 96))] h1453 _
                                      have b1568 := i_rng x1533
                                      refine R_iadd rfl ?_
                                      refine N_any (fun x1569 => ?_)
                                      refine R_bipush 48 rfl rfl ?_
                                      have b1570 := i_rng x1569
                                      refine R_isub rfl ?_
                                      refine N_any (fun x1571 => ?_)
                                      refine N_min (a := 99999) (b := x1571.toInt) rfl mt_9_i167 (by decide) rfl ⟨by decide, by decide, Nat.le_of_ble_eq_true rfl⟩ (fun x1572 q1573 => ?_)
                                      refine K_putf (j := 11) (lo := (-2147483648)) (hi' := 2147483647) rfl ft_9_163 sh_96 rfl hI (by decide) rfl (i_rng _) fr (by decide) (fun h1574 g1575 hI fr => ?_)
                                      have fl1454 : FR [96] h1441 h1574 := by rw [g1575]; exact FR_wI _ _ fl1454 (by decide)
                                      have fl8 : FR [96] h h1574 := by rw [g1575]; exact FR_wI _ _ fl8 (by decide)
                                      have s1576 : (h1574.1 96 7).toInt = (h1453.1 96 7).toInt := by rw [g1575, wI_at (by decide)]
                                      have s1577 : (h1574.1 96 5).toInt = (h1453.1 96 5).toInt := by rw [g1575, wI_at (by decide)]
                                      have s1578 : (h1574.1 96 8).toInt = (h1453.1 96 8).toInt := by rw [g1575, wI_at (by decide)]
                                      have s1579 : (h1574.1 96 12).toInt = (h1453.1 96 12).toInt := by rw [g1575, wI_at (by decide)]
                                      have s1580 : (h1574.1 96 13).toInt = (h1453.1 96 13).toInt := by rw [g1575, wI_at (by decide)]
                                      have s1581 : (h1574.1 96 10).toInt = (h1453.1 96 10).toInt := by rw [g1575, wI_at (by decide)]
                                      have s1582 : (h1574.1 96 9).toInt = (h1453.1 96 9).toInt := by rw [g1575, wI_at (by decide)]
                                      have s1583 : (h1574.1 96 11).toInt = x1572.toInt := by rw [g1575, wI_is]
                                      refine R_aload_n (k := 0) rfl rfl rfl ?_
                                      refine R_dup_r rfl ?_
                                      refine R_getf_i (j := 8) rfl ft_9_142 sh_96 rfl ?_
                                      refine R_iconst 1 rfl rfl ?_
                                      refine N_iadd (a := (h1574.1 96 8).toInt) (b := 1) rfl rfl (by decide) (by omega) (fun x1584 q1585 => ?_)
                                      refine K_putf (j := 8) (lo := 0) (hi' := 500) rfl ft_9_142 sh_96 rfl hI (by decide) rfl (by omega) fr (by decide) (fun h1586 g1587 hI fr => ?_)
                                      have fl1454 : FR [96] h1441 h1586 := by rw [g1587]; exact FR_wI _ _ fl1454 (by decide)
                                      have fl8 : FR [96] h h1586 := by rw [g1587]; exact FR_wI _ _ fl8 (by decide)
                                      have s1588 : (h1586.1 96 7).toInt = (h1574.1 96 7).toInt := by rw [g1587, wI_at (by decide)]
                                      have s1589 : (h1586.1 96 5).toInt = (h1574.1 96 5).toInt := by rw [g1587, wI_at (by decide)]
                                      have s1590 : (h1586.1 96 12).toInt = (h1574.1 96 12).toInt := by rw [g1587, wI_at (by decide)]
                                      have s1591 : (h1586.1 96 13).toInt = (h1574.1 96 13).toInt := by rw [g1587, wI_at (by decide)]
                                      have s1592 : (h1586.1 96 10).toInt = (h1574.1 96 10).toInt := by rw [g1587, wI_at (by decide)]
                                      have s1593 : (h1586.1 96 9).toInt = (h1574.1 96 9).toInt := by rw [g1587, wI_at (by decide)]
                                      have s1594 : (h1586.1 96 11).toInt = (h1574.1 96 11).toInt := by rw [g1587, wI_at (by decide)]
                                      have s1595 : (h1586.1 96 8).toInt = x1584.toInt := by rw [g1587, wI_is]
                                      refine R_goto 144 rfl rfl ?_
                                      exact RUN_weak (psub_cons rfl (psub_cons rfl (psub_nil _))) (ih1455 h1586 hI fr fl1454 (by omega) (by omega) (by omega) (by omega) (by omega) (by omega) trivial (by omega) (by omega) (by omega) (by rw [g1587, seeF_w (by decide), g1575, seeF_w (by decide)]; exact m1469) (Or.inl (by omega)) (by omega) (by omega))
                          exact lp1452 _ h1441 hI fr (FR.rf _ _) rfl rfl rfl rfl rfl (by omega) trivial (by omega) (by omega) (by omega) (by rw [g1442, seeF_w (by decide)]; exact sS1348) (Or.inr (by rw [g1442, wI_at (by decide)])) (by omega) (Nat.lt_succ_self _)
                    · exfalso; omega
                  · show RUN d_X9_advance 80 [(1, .inl x1333), (0, .inr (.inr (.inl 96)))] [.inl x1358] h1319 _
                    refine N_if_eq (a := x1358.toInt) 125 rfl rfl rfl (fun c1596 => ?_) (fun c1596 => ?_)
                    · refine R_iload_n (k := 1) rfl rfl rfl ?_
                      refine N_i2l rfl (fun w1597 q1598 => ?_)
                      refine R_ldc2 (x := 48) rfl kt_9_159 ?_
                      refine R_ldc2 (x := 57) rfl kt_9_161 ?_
                      have k1599 : (48 : Int64).toInt = 48 := by decide
                      have k1600 : (57 : Int64).toInt = 57 := by decide
                      refine R_callS (As := [.inr (.inl w1597), .inr (.inl 48), .inr (.inl 57)]) (rest := []) rfl mt_9_i125 (by decide) pp_X9_in (by decide) rfl rfl (Nat.le_of_ble_eq_true rfl) (Nat.le_of_ble_eq_true rfl) ((k_X9_in h1319 hI w1597 (48 : Int64) (57 : Int64)).mono (fun r1601 h1602 p1603 => ?_))
                      obtain ⟨rfl, x1604, rfl, q1605 | q1605 | q1605⟩ := p1603
                      · exfalso; omega
                      · show RUN d_X9_advance 136 [(1, .inl x1333), (0, .inr (.inr (.inl 96)))] [.inl x1604] h1319 _
                        refine N_if_eq (a := x1604.toInt) 214 rfl rfl rfl (fun c1606 => ?_) (fun c1606 => ?_)
                        · refine R_aload_n (k := 0) rfl rfl rfl ?_
                          refine R_iload_n (k := 1) rfl rfl rfl ?_
                          refine R_bipush 59 rfl rfl ?_
                          refine N_icmp_ne (a := x1333.toInt) (b := 59) 225 rfl rfl rfl (by decide) (fun c1607 => ?_) (fun c1607 => ?_)
                          · refine R_iconst 4 rfl rfl ?_
                            refine K_putf (j := 10) (lo := (-2147483648)) (hi' := 2147483647) rfl ft_9_152 sh_96 rfl hI (by decide) rfl (by decide) fr (by decide) (fun h1608 g1609 hI fr => ?_)
                            have fl8 : FR [96] h h1608 := by rw [g1609]; exact FR_wI _ _ fl8 (by decide)
                            have s1610 : (h1608.1 96 7).toInt = (h1319.1 96 7).toInt := by rw [g1609, wI_at (by decide)]
                            have s1611 : (h1608.1 96 5).toInt = (h1319.1 96 5).toInt := by rw [g1609, wI_at (by decide)]
                            have s1612 : (h1608.1 96 8).toInt = (h1319.1 96 8).toInt := by rw [g1609, wI_at (by decide)]
                            have s1613 : (h1608.1 96 12).toInt = (h1319.1 96 12).toInt := by rw [g1609, wI_at (by decide)]
                            have s1614 : (h1608.1 96 13).toInt = (h1319.1 96 13).toInt := by rw [g1609, wI_at (by decide)]
                            have s1615 : (h1608.1 96 11).toInt = (h1319.1 96 11).toInt := by rw [g1609, wI_at (by decide)]
                            have s1616 : (h1608.1 96 9).toInt = (h1319.1 96 9).toInt := by rw [g1609, wI_at (by decide)]
                            have s1617 : (h1608.1 96 10).toInt = 4 := by rw [g1609, wI_is]; rfl
                            refine R_aload_n (k := 0) rfl rfl rfl ?_
                            refine R_dup_r rfl ?_
                            refine R_getf_i (j := 8) rfl ft_9_142 sh_96 rfl ?_
                            refine R_iconst 1 rfl rfl ?_
                            refine N_iadd (a := (h1608.1 96 8).toInt) (b := 1) rfl rfl (by decide) (by omega) (fun x1618 q1619 => ?_)
                            refine K_putf (j := 8) (lo := 0) (hi' := 500) rfl ft_9_142 sh_96 rfl hI (by decide) rfl (by omega) fr (by decide) (fun h1620 g1621 hI fr => ?_)
                            have fl8 : FR [96] h h1620 := by rw [g1621]; exact FR_wI _ _ fl8 (by decide)
                            have s1622 : (h1620.1 96 7).toInt = (h1608.1 96 7).toInt := by rw [g1621, wI_at (by decide)]
                            have s1623 : (h1620.1 96 5).toInt = (h1608.1 96 5).toInt := by rw [g1621, wI_at (by decide)]
                            have s1624 : (h1620.1 96 12).toInt = (h1608.1 96 12).toInt := by rw [g1621, wI_at (by decide)]
                            have s1625 : (h1620.1 96 13).toInt = (h1608.1 96 13).toInt := by rw [g1621, wI_at (by decide)]
                            have s1626 : (h1620.1 96 11).toInt = (h1608.1 96 11).toInt := by rw [g1621, wI_at (by decide)]
                            have s1627 : (h1620.1 96 9).toInt = (h1608.1 96 9).toInt := by rw [g1621, wI_at (by decide)]
                            have s1628 : (h1620.1 96 10).toInt = (h1608.1 96 10).toInt := by rw [g1621, wI_at (by decide)]
                            have s1629 : (h1620.1 96 8).toInt = x1618.toInt := by rw [g1621, wI_is]
                            exact R_vret rfl rfl ⟨hI, fr, ⟨by omega, by omega, by omega, by omega, by omega, by omega, trivial⟩, rfl⟩
                          · exfalso; omega
                        · exfalso; omega
                      · exfalso; omega
                    · exfalso; omega
                  · show RUN d_X9_advance 80 [(1, .inl x1333), (0, .inr (.inr (.inl 96)))] [.inl x1358] h1319 _
                    refine N_if_eq (a := x1358.toInt) 125 rfl rfl rfl (fun c1630 => ?_) (fun c1630 => ?_)
                    · exfalso; omega
                    · have lp1632 : ∀ (n1631 : Nat) (h1633 : PH), INV h1633 → FR [96] h h1633 → FR [96] h1319 h1633 → (h1633.1 96 7).toInt = (h1319.1 96 7).toInt → (h1633.1 96 5).toInt = (h1319.1 96 5).toInt → (h1633.1 96 12).toInt = (h1319.1 96 12).toInt → (h1633.1 96 13).toInt = (h1319.1 96 13).toInt → (h1633.1 96 11).toInt = (h1319.1 96 11).toInt → (h1633.1 96 9).toInt = (h1319.1 96 9).toInt → 0 ≤ (h1633.1 96 8).toInt ∧ (h1633.1 96 8).toInt ≤ 500 → True → (h1633.1 96 8).toInt ≤ (h1319.1 96 7).toInt + 0 → (h1319.1 96 9).toInt ≤ (h1633.1 96 8).toInt + 0 → (seeF h1633 = seeF h) → ((h1319.1 96 8).toInt + 1 ≤ (h1633.1 96 8).toInt ∨ h1633.1 96 8 = h1319.1 96 8) → ((h1319.1 96 8).toInt ≤ (h1633.1 96 8).toInt) → (500 - (h1633.1 96 8).toInt).toNat < n1631 → RUN d_X9_advance 83 [(1, .inl x1333), (0, .inr (.inr (.inl 96)))] [] h1633 (qg_X9_advance h) := by
                        intro n1631
                        induction n1631 with
                        | zero => intro h1633 m1636 m1637 m1638 m1639 m1640 m1641 m1642 m1643 m1644 m1645 m1646 m1647 m1648 m1649 m1650 m1651 hz; exact absurd hz (Nat.not_lt_zero _)
                        | succ n1631 ih1635 =>
                          intro h1633 hI fr fl1634 m1639 m1640 m1641 m1642 m1643 m1644 m1645 m1646 m1647 m1648 m1649 m1650 m1651 hz
                          have fl8 : FR [96] h h1633 := fl8.trans fl1634 (by decide)
                          refine R_aload_n (k := 0) rfl rfl rfl ?_
                          refine R_aload_n (k := 0) rfl rfl rfl ?_
                          refine R_getf_i (j := 8) rfl ft_9_142 sh_96 rfl ?_
                          refine R_callV (v := .inr (.inr (.inl 96))) (As := [.inl (h1633.1 96 8)]) (rest := []) rfl mt_9_i145 pp_X9_see (by decide) rfl rfl rfl (Nat.le_of_ble_eq_true rfl) (Nat.le_of_ble_eq_true rfl) ((g_X9_see h1633 hI (h1633.1 96 8) (by omega)).mono (fun r1652 h1653 p1654 => ?_))
                          obtain ⟨rfl, x1656, rfl, (q1657 | q1657), zq1655, -⟩ := p1654
                          · show RUN d_X9_advance 91 [(1, .inl x1333), (0, .inr (.inr (.inl 96)))] [.inl x1656] h1633 _
                            have sy1658 : (h1319.1 96 8).toInt + 1 ≤ (h1633.1 96 8).toInt ∨ x1656.toInt = x1333.toInt := Or.elim m1650 Or.inl (fun c => Or.inr (by rw [zq1655, m1649, c, ← sz1349]))
                            refine N_i2l rfl (fun w1659 q1660 => ?_)
                            refine R_ldc2 (x := 97) rfl kt_9_155 ?_
                            refine R_ldc2 (x := 122) rfl kt_9_157 ?_
                            have k1661 : (97 : Int64).toInt = 97 := by decide
                            have k1662 : (122 : Int64).toInt = 122 := by decide
                            refine R_callS (As := [.inr (.inl w1659), .inr (.inl 97), .inr (.inl 122)]) (rest := []) rfl mt_9_i125 (by decide) pp_X9_in (by decide) rfl rfl (Nat.le_of_ble_eq_true rfl) (Nat.le_of_ble_eq_true rfl) ((k_X9_in h1633 hI w1659 (97 : Int64) (122 : Int64)).mono (fun r1663 h1664 p1665 => ?_))
                            obtain ⟨rfl, x1666, rfl, q1667 | q1667 | q1667⟩ := p1665
                            · show RUN d_X9_advance 101 [(1, .inl x1333), (0, .inr (.inr (.inl 96)))] [.inl x1666] h1633 _
                              refine N_if_eq (a := x1666.toInt) 117 rfl rfl rfl (fun c1668 => ?_) (fun c1668 => ?_)
                              · refine R_aload_n (k := 0) rfl rfl rfl ?_
                                refine R_iconst 1 rfl rfl ?_
                                refine K_putf (j := 10) (lo := (-2147483648)) (hi' := 2147483647) rfl ft_9_152 sh_96 rfl hI (by decide) rfl (by decide) fr (by decide) (fun h1669 g1670 hI fr => ?_)
                                have fl1634 : FR [96] h1319 h1669 := by rw [g1670]; exact FR_wI _ _ fl1634 (by decide)
                                have fl8 : FR [96] h h1669 := by rw [g1670]; exact FR_wI _ _ fl8 (by decide)
                                have s1671 : (h1669.1 96 7).toInt = (h1633.1 96 7).toInt := by rw [g1670, wI_at (by decide)]
                                have s1672 : (h1669.1 96 5).toInt = (h1633.1 96 5).toInt := by rw [g1670, wI_at (by decide)]
                                have s1673 : (h1669.1 96 8).toInt = (h1633.1 96 8).toInt := by rw [g1670, wI_at (by decide)]
                                have s1674 : (h1669.1 96 12).toInt = (h1633.1 96 12).toInt := by rw [g1670, wI_at (by decide)]
                                have s1675 : (h1669.1 96 13).toInt = (h1633.1 96 13).toInt := by rw [g1670, wI_at (by decide)]
                                have s1676 : (h1669.1 96 11).toInt = (h1633.1 96 11).toInt := by rw [g1670, wI_at (by decide)]
                                have s1677 : (h1669.1 96 9).toInt = (h1633.1 96 9).toInt := by rw [g1670, wI_at (by decide)]
                                have s1678 : (h1669.1 96 10).toInt = 1 := by rw [g1670, wI_is]; rfl
                                refine R_goto 239 rfl rfl ?_
                                exact R_vret rfl rfl ⟨hI, fr, ⟨by omega, by omega, by omega, by omega, by omega, by omega, trivial⟩, rfl⟩
                              · exfalso; omega
                            · exfalso; omega
                            · exfalso; omega
                          · show RUN d_X9_advance 91 [(1, .inl x1333), (0, .inr (.inr (.inl 96)))] [.inl x1656] h1633 _
                            have sy1679 : (h1319.1 96 8).toInt + 1 ≤ (h1633.1 96 8).toInt ∨ x1656.toInt = x1333.toInt := Or.elim m1650 Or.inl (fun c => Or.inr (by rw [zq1655, m1649, c, ← sz1349]))
                            refine N_i2l rfl (fun w1680 q1681 => ?_)
                            refine R_ldc2 (x := 97) rfl kt_9_155 ?_
                            refine R_ldc2 (x := 122) rfl kt_9_157 ?_
                            have k1682 : (97 : Int64).toInt = 97 := by decide
                            have k1683 : (122 : Int64).toInt = 122 := by decide
                            refine R_callS (As := [.inr (.inl w1680), .inr (.inl 97), .inr (.inl 122)]) (rest := []) rfl mt_9_i125 (by decide) pp_X9_in (by decide) rfl rfl (Nat.le_of_ble_eq_true rfl) (Nat.le_of_ble_eq_true rfl) ((k_X9_in h1633 hI w1680 (97 : Int64) (122 : Int64)).mono (fun r1684 h1685 p1686 => ?_))
                            obtain ⟨rfl, x1687, rfl, q1688 | q1688 | q1688⟩ := p1686
                            · show RUN d_X9_advance 101 [(1, .inl x1333), (0, .inr (.inr (.inl 96)))] [.inl x1687] h1633 _
                              refine N_if_eq (a := x1687.toInt) 117 rfl rfl rfl (fun c1689 => ?_) (fun c1689 => ?_)
                              · refine R_aload_n (k := 0) rfl rfl rfl ?_
                                refine R_iconst 1 rfl rfl ?_
                                refine K_putf (j := 10) (lo := (-2147483648)) (hi' := 2147483647) rfl ft_9_152 sh_96 rfl hI (by decide) rfl (by decide) fr (by decide) (fun h1690 g1691 hI fr => ?_)
                                have fl1634 : FR [96] h1319 h1690 := by rw [g1691]; exact FR_wI _ _ fl1634 (by decide)
                                have fl8 : FR [96] h h1690 := by rw [g1691]; exact FR_wI _ _ fl8 (by decide)
                                have s1692 : (h1690.1 96 7).toInt = (h1633.1 96 7).toInt := by rw [g1691, wI_at (by decide)]
                                have s1693 : (h1690.1 96 5).toInt = (h1633.1 96 5).toInt := by rw [g1691, wI_at (by decide)]
                                have s1694 : (h1690.1 96 8).toInt = (h1633.1 96 8).toInt := by rw [g1691, wI_at (by decide)]
                                have s1695 : (h1690.1 96 12).toInt = (h1633.1 96 12).toInt := by rw [g1691, wI_at (by decide)]
                                have s1696 : (h1690.1 96 13).toInt = (h1633.1 96 13).toInt := by rw [g1691, wI_at (by decide)]
                                have s1697 : (h1690.1 96 11).toInt = (h1633.1 96 11).toInt := by rw [g1691, wI_at (by decide)]
                                have s1698 : (h1690.1 96 9).toInt = (h1633.1 96 9).toInt := by rw [g1691, wI_at (by decide)]
                                have s1699 : (h1690.1 96 10).toInt = 1 := by rw [g1691, wI_is]; rfl
                                refine R_goto 239 rfl rfl ?_
                                exact R_vret rfl rfl ⟨hI, fr, ⟨by omega, by omega, by omega, by omega, by omega, by omega, trivial⟩, rfl⟩
                              · exfalso; omega
                            · show RUN d_X9_advance 101 [(1, .inl x1333), (0, .inr (.inr (.inl 96)))] [.inl x1687] h1633 _
                              refine N_if_eq (a := x1687.toInt) 117 rfl rfl rfl (fun c1700 => ?_) (fun c1700 => ?_)
                              · refine R_aload_n (k := 0) rfl rfl rfl ?_
                                refine R_iconst 1 rfl rfl ?_
                                refine K_putf (j := 10) (lo := (-2147483648)) (hi' := 2147483647) rfl ft_9_152 sh_96 rfl hI (by decide) rfl (by decide) fr (by decide) (fun h1701 g1702 hI fr => ?_)
                                have fl1634 : FR [96] h1319 h1701 := by rw [g1702]; exact FR_wI _ _ fl1634 (by decide)
                                have fl8 : FR [96] h h1701 := by rw [g1702]; exact FR_wI _ _ fl8 (by decide)
                                have s1703 : (h1701.1 96 7).toInt = (h1633.1 96 7).toInt := by rw [g1702, wI_at (by decide)]
                                have s1704 : (h1701.1 96 5).toInt = (h1633.1 96 5).toInt := by rw [g1702, wI_at (by decide)]
                                have s1705 : (h1701.1 96 8).toInt = (h1633.1 96 8).toInt := by rw [g1702, wI_at (by decide)]
                                have s1706 : (h1701.1 96 12).toInt = (h1633.1 96 12).toInt := by rw [g1702, wI_at (by decide)]
                                have s1707 : (h1701.1 96 13).toInt = (h1633.1 96 13).toInt := by rw [g1702, wI_at (by decide)]
                                have s1708 : (h1701.1 96 11).toInt = (h1633.1 96 11).toInt := by rw [g1702, wI_at (by decide)]
                                have s1709 : (h1701.1 96 9).toInt = (h1633.1 96 9).toInt := by rw [g1702, wI_at (by decide)]
                                have s1710 : (h1701.1 96 10).toInt = 1 := by rw [g1702, wI_is]; rfl
                                refine R_goto 239 rfl rfl ?_
                                exact R_vret rfl rfl ⟨hI, fr, ⟨by omega, by omega, by omega, by omega, by omega, by omega, trivial⟩, rfl⟩
                              · exfalso; omega
                            · show RUN d_X9_advance 101 [(1, .inl x1333), (0, .inr (.inr (.inl 96)))] [.inl x1687] h1633 _
                              refine N_if_eq (a := x1687.toInt) 117 rfl rfl rfl (fun c1711 => ?_) (fun c1711 => ?_)
                              · exfalso; omega
                              · refine R_aload_n (k := 0) rfl rfl rfl ?_
                                refine R_dup_r rfl ?_
                                refine R_getf_i (j := 8) rfl ft_9_142 sh_96 rfl ?_
                                refine R_iconst 1 rfl rfl ?_
                                refine N_iadd (a := (h1633.1 96 8).toInt) (b := 1) rfl rfl (by decide) (by omega) (fun x1712 q1713 => ?_)
                                refine K_putf (j := 8) (lo := 0) (hi' := 500) rfl ft_9_142 sh_96 rfl hI (by decide) rfl (by omega) fr (by decide) (fun h1714 g1715 hI fr => ?_)
                                have fl1634 : FR [96] h1319 h1714 := by rw [g1715]; exact FR_wI _ _ fl1634 (by decide)
                                have fl8 : FR [96] h h1714 := by rw [g1715]; exact FR_wI _ _ fl8 (by decide)
                                have s1716 : (h1714.1 96 7).toInt = (h1633.1 96 7).toInt := by rw [g1715, wI_at (by decide)]
                                have s1717 : (h1714.1 96 5).toInt = (h1633.1 96 5).toInt := by rw [g1715, wI_at (by decide)]
                                have s1718 : (h1714.1 96 12).toInt = (h1633.1 96 12).toInt := by rw [g1715, wI_at (by decide)]
                                have s1719 : (h1714.1 96 13).toInt = (h1633.1 96 13).toInt := by rw [g1715, wI_at (by decide)]
                                have s1720 : (h1714.1 96 10).toInt = (h1633.1 96 10).toInt := by rw [g1715, wI_at (by decide)]
                                have s1721 : (h1714.1 96 11).toInt = (h1633.1 96 11).toInt := by rw [g1715, wI_at (by decide)]
                                have s1722 : (h1714.1 96 9).toInt = (h1633.1 96 9).toInt := by rw [g1715, wI_at (by decide)]
                                have s1723 : (h1714.1 96 8).toInt = x1712.toInt := by rw [g1715, wI_is]
                                refine R_goto 83 rfl rfl ?_
                                exact RUN_weak (psub_cons rfl (psub_cons rfl (psub_nil _))) (ih1635 h1714 hI fr fl1634 (by omega) (by omega) (by omega) (by omega) (by omega) (by omega) (by omega) trivial (by omega) (by omega) (by rw [g1715, seeF_w (by decide)]; exact m1649) (Or.inl (by omega)) (by omega) (by omega))
                      exact lp1632 _ h1319 hI fr (FR.rf _ _) rfl rfl rfl rfl rfl rfl (by omega) trivial (by omega) (by omega) (sS1348) (Or.inr rfl) (by omega) (Nat.lt_succ_self _)
                · exfalso; omega
            · refine R_aload_n (k := 0) rfl rfl rfl ?_
              refine R_dup_r rfl ?_
              refine R_getf_i (j := 8) rfl ft_9_142 sh_96 rfl ?_
              refine R_iconst 1 rfl rfl ?_
              refine N_iadd (a := (h7.1 96 8).toInt) (b := 1) rfl rfl (by decide) (by omega) (fun x1724 q1725 => ?_)
              refine K_putf (j := 8) (lo := 0) (hi' := 500) rfl ft_9_142 sh_96 rfl hI (by decide) rfl (by omega) fr (by decide) (fun h1726 g1727 hI fr => ?_)
              have fl8 : FR [96] h h1726 := by rw [g1727]; exact FR_wI _ _ fl8 (by decide)
              have s1728 : (h1726.1 96 7).toInt = (h7.1 96 7).toInt := by rw [g1727, wI_at (by decide)]
              have s1729 : (h1726.1 96 5).toInt = (h7.1 96 5).toInt := by rw [g1727, wI_at (by decide)]
              have s1730 : (h1726.1 96 12).toInt = (h7.1 96 12).toInt := by rw [g1727, wI_at (by decide)]
              have s1731 : (h1726.1 96 13).toInt = (h7.1 96 13).toInt := by rw [g1727, wI_at (by decide)]
              have s1732 : (h1726.1 96 10).toInt = (h7.1 96 10).toInt := by rw [g1727, wI_at (by decide)]
              have s1733 : (h1726.1 96 11).toInt = (h7.1 96 11).toInt := by rw [g1727, wI_at (by decide)]
              have s1734 : (h1726.1 96 8).toInt = x1724.toInt := by rw [g1727, wI_is]
              refine R_goto 0 rfl rfl ?_
              exact RUN_weak (psub_cons rfl (psub_nil _)) (ih9 h1726 hI fr fl8 (by omega) (by omega) (by omega) (by omega) (by omega) trivial trivial (by rw [g1727, seeF_w (by decide)]; exact m20) (by omega) (by omega))
  exact lp6 _ h hI fr (FR.rf _ _) rfl rfl rfl rfl (by omega) trivial trivial (rfl) (by omega) (Nat.lt_succ_self _)
