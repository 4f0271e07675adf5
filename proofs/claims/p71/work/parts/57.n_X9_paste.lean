abbrev qg_X9_paste (h : PH) (a0 : Int32) (a1 : Int32) (a2 : Int32) (a3 : Int32) (a4 : Int32) : Option PV → PH → Prop := fun r h' => INV h' ∧ FR [129, 130] h h' ∧ (True) ∧ ∃ z : Int32, r = some (.inl z) ∧ ((((-8) ≤ z.toInt ∧ z.toInt ≤ 0)) ∧ (z = s_paste a0.toInt a1.toInt a2.toInt a3.toInt a4.toInt (h.1 127 a0.toNatClampNeg).toInt (h.1 127 a2.toNatClampNeg).toInt (h.1 128 a0.toNatClampNeg).toInt (h.1 128 a2.toNatClampNeg).toInt) ∧ True)
set_option maxHeartbeats 4000000 in
set_option maxRecDepth 100000 in
theorem g_X9_paste (h : PH) (hI : INV h) (a0 : Int32) (a1 : Int32) (a2 : Int32) (a3 : Int32) (a4 : Int32) : CALL d_X9_paste [.inr (.inr (.inl 96)), .inl a0, .inl a1, .inl a2, .inl a3, .inl a4] h (qg_X9_paste h a0 a1 a2 a3 a4) := by
  show RUN d_X9_paste 0 [(0, .inr (.inr (.inl 96))), (1, .inl a0), (2, .inl a1), (3, .inl a2), (4, .inl a3), (5, .inl a4)] [] h _
  have b1 := i_rng a0
  have b2 := i_rng a1
  have b3 := i_rng a2
  have b4 := i_rng a3
  have b5 := i_rng a4
  have fr : FR [129, 130] h h := FR.rf _ _
  refine R_iload_n (k := 1) rfl rfl rfl ?_
  refine R_callS (As := [.inl a0]) (rest := []) rfl mt_9_i440 (by decide) pp_X9_isSlot (by decide) rfl rfl (Nat.le_of_ble_eq_true rfl) (Nat.le_of_ble_eq_true rfl) ((k_X9_isSlot h hI a0).mono (fun r6 h7 p8 => ?_))
  obtain ⟨rfl, x9, rfl, q10 | q10 | q10⟩ := p8
  · show RUN d_X9_paste 4 [(0, .inr (.inr (.inl 96))), (1, .inl a0), (2, .inl a1), (3, .inl a2), (4, .inl a3), (5, .inl a4)] [.inl x9] h _
    refine N_if_eq (a := x9.toInt) 14 rfl rfl rfl (fun c11 => ?_) (fun c11 => ?_)
    · refine R_bipush (-2) rfl rfl ?_
      have k12 : ((-2) : Int32).toInt = (-2) := by decide
      exact R_iret rfl rfl rfl ⟨hI, fr, trivial, _, rfl, ⟨by rw [show ((-2) : Int32).toInt = (-2) from rfl] <;> omega, (by unfold s_paste; rw [if_neg (by omega)]), trivial⟩⟩
    · exfalso; omega
  · show RUN d_X9_paste 4 [(0, .inr (.inr (.inl 96))), (1, .inl a0), (2, .inl a1), (3, .inl a2), (4, .inl a3), (5, .inl a4)] [.inl x9] h _
    refine N_if_eq (a := x9.toInt) 14 rfl rfl rfl (fun c13 => ?_) (fun c13 => ?_)
    · refine R_bipush (-2) rfl rfl ?_
      have k14 : ((-2) : Int32).toInt = (-2) := by decide
      exact R_iret rfl rfl rfl ⟨hI, fr, trivial, _, rfl, ⟨by rw [show ((-2) : Int32).toInt = (-2) from rfl] <;> omega, (by unfold s_paste; rw [if_neg (by omega)]), trivial⟩⟩
    · exfalso; omega
  · show RUN d_X9_paste 4 [(0, .inr (.inr (.inl 96))), (1, .inl a0), (2, .inl a1), (3, .inl a2), (4, .inl a3), (5, .inl a4)] [.inl x9] h _
    refine N_if_eq (a := x9.toInt) 14 rfl rfl rfl (fun c15 => ?_) (fun c15 => ?_)
    · exfalso; omega
    · refine R_iload_n (k := 3) rfl rfl rfl ?_
      refine R_callS (As := [.inl a2]) (rest := []) rfl mt_9_i440 (by decide) pp_X9_isSlot (by decide) rfl rfl (Nat.le_of_ble_eq_true rfl) (Nat.le_of_ble_eq_true rfl) ((k_X9_isSlot h hI a2).mono (fun r16 h17 p18 => ?_))
      obtain ⟨rfl, x19, rfl, q20 | q20 | q20⟩ := p18
      · show RUN d_X9_paste 11 [(0, .inr (.inr (.inl 96))), (1, .inl a0), (2, .inl a1), (3, .inl a2), (4, .inl a3), (5, .inl a4)] [.inl x19] h _
        refine N_if_ne (a := x19.toInt) 17 rfl rfl rfl (fun c21 => ?_) (fun c21 => ?_)
        · exfalso; omega
        · refine R_bipush (-2) rfl rfl ?_
          have k22 : ((-2) : Int32).toInt = (-2) := by decide
          exact R_iret rfl rfl rfl ⟨hI, fr, trivial, _, rfl, ⟨by rw [show ((-2) : Int32).toInt = (-2) from rfl] <;> omega, (by unfold s_paste; rw [if_neg (by omega)]), trivial⟩⟩
      · show RUN d_X9_paste 11 [(0, .inr (.inr (.inl 96))), (1, .inl a0), (2, .inl a1), (3, .inl a2), (4, .inl a3), (5, .inl a4)] [.inl x19] h _
        refine N_if_ne (a := x19.toInt) 17 rfl rfl rfl (fun c23 => ?_) (fun c23 => ?_)
        · exfalso; omega
        · refine R_bipush (-2) rfl rfl ?_
          have k24 : ((-2) : Int32).toInt = (-2) := by decide
          exact R_iret rfl rfl rfl ⟨hI, fr, trivial, _, rfl, ⟨by rw [show ((-2) : Int32).toInt = (-2) from rfl] <;> omega, (by unfold s_paste; rw [if_neg (by omega)]), trivial⟩⟩
      · show RUN d_X9_paste 11 [(0, .inr (.inr (.inl 96))), (1, .inl a0), (2, .inl a1), (3, .inl a2), (4, .inl a3), (5, .inl a4)] [.inl x19] h _
        refine N_if_ne (a := x19.toInt) 17 rfl rfl rfl (fun c25 => ?_) (fun c25 => ?_)
        · refine R_aload_n (k := 0) rfl rfl rfl ?_
          refine R_getf_r (j := 57) rfl ft_9_107 sh_96 rfl ?_
          refine R_iload_n (k := 1) rfl rfl rfl ?_
          refine R_iald rfl sh_127 ⟨by omega, by omega⟩ ?_
          refine N_eq (fun x26 e27 => ?_)
          have q28 : (-1) ≤ x26.toInt ∧ x26.toInt ≤ 60 := by rw [e27]; exact hI.1 127 _
          refine R_iconst (-1) rfl rfl ?_
          refine N_icmp_eq (a := x26.toInt) (b := (-1)) 37 rfl rfl rfl (by decide) (fun c29 => ?_) (fun c29 => ?_)
          · refine R_bipush (-6) rfl rfl ?_
            have k30 : ((-6) : Int32).toInt = (-6) := by decide
            have ev31 : (h.1 127 a0.toNatClampNeg).toInt = x26.toInt := by rw [← e27]
            exact R_iret rfl rfl rfl ⟨hI, fr, trivial, _, rfl, ⟨by rw [show ((-6) : Int32).toInt = (-6) from rfl] <;> omega, (by unfold s_paste; rw [if_pos (by omega), if_pos (by omega)]), trivial⟩⟩
          · refine R_aload_n (k := 0) rfl rfl rfl ?_
            refine R_getf_r (j := 57) rfl ft_9_107 sh_96 rfl ?_
            refine R_iload_n (k := 3) rfl rfl rfl ?_
            refine R_iald rfl sh_127 ⟨by omega, by omega⟩ ?_
            refine N_eq (fun x32 e33 => ?_)
            have q34 : (-1) ≤ x32.toInt ∧ x32.toInt ≤ 60 := by rw [e33]; exact hI.1 127 _
            refine R_iconst (-1) rfl rfl ?_
            refine N_icmp_ne (a := x32.toInt) (b := (-1)) 40 rfl rfl rfl (by decide) (fun c35 => ?_) (fun c35 => ?_)
            · refine R_aload_n (k := 0) rfl rfl rfl ?_
              refine R_getf_r (j := 58) rfl ft_9_110 sh_96 rfl ?_
              refine R_iload_n (k := 1) rfl rfl rfl ?_
              refine R_iald rfl sh_128 ⟨by omega, by omega⟩ ?_
              refine N_eq (fun x36 e37 => ?_)
              refine R_aload_n (k := 0) rfl rfl rfl ?_
              refine R_getf_r (j := 58) rfl ft_9_110 sh_96 rfl ?_
              refine R_iload_n (k := 3) rfl rfl rfl ?_
              refine R_iald rfl sh_128 ⟨by omega, by omega⟩ ?_
              refine N_eq (fun x38 e39 => ?_)
              refine N_icmp_eq (a := x36.toInt) (b := x38.toInt) 58 rfl rfl rfl rfl (fun c40 => ?_) (fun c40 => ?_)
              · refine R_iload_n (k := 2) rfl rfl rfl ?_
                refine N_if_lt (a := a1.toInt) 107 rfl rfl rfl (fun c41 => ?_) (fun c41 => ?_)
                · refine R_bipush (-7) rfl rfl ?_
                  have k42 : ((-7) : Int32).toInt = (-7) := by decide
                  have ev43 : (h.1 127 a0.toNatClampNeg).toInt = x26.toInt := by rw [← e27]
                  have ev44 : (h.1 127 a2.toNatClampNeg).toInt = x32.toInt := by rw [← e33]
                  have ev45 : (h.1 128 a0.toNatClampNeg).toInt = x36.toInt := by rw [← e37]
                  have ev46 : (h.1 128 a2.toNatClampNeg).toInt = x38.toInt := by rw [← e39]
                  exact R_iret rfl rfl rfl ⟨hI, fr, trivial, _, rfl, ⟨by rw [show ((-7) : Int32).toInt = (-7) from rfl] <;> omega, (by unfold s_paste; rw [if_pos (by omega), if_neg (by omega), if_pos (by omega), if_neg (by omega)]), trivial⟩⟩
                · refine R_iload (k := 4) rfl rfl ?_
                  refine N_if_lt (a := a3.toInt) 107 rfl rfl rfl (fun c47 => ?_) (fun c47 => ?_)
                  · refine R_bipush (-7) rfl rfl ?_
                    have k48 : ((-7) : Int32).toInt = (-7) := by decide
                    have ev49 : (h.1 127 a0.toNatClampNeg).toInt = x26.toInt := by rw [← e27]
                    have ev50 : (h.1 127 a2.toNatClampNeg).toInt = x32.toInt := by rw [← e33]
                    have ev51 : (h.1 128 a0.toNatClampNeg).toInt = x36.toInt := by rw [← e37]
                    have ev52 : (h.1 128 a2.toNatClampNeg).toInt = x38.toInt := by rw [← e39]
                    exact R_iret rfl rfl rfl ⟨hI, fr, trivial, _, rfl, ⟨by rw [show ((-7) : Int32).toInt = (-7) from rfl] <;> omega, (by unfold s_paste; rw [if_pos (by omega), if_neg (by omega), if_pos (by omega), if_neg (by omega)]), trivial⟩⟩
                  · refine R_iload (k := 5) rfl rfl ?_
                    refine N_if_lt (a := a4.toInt) 107 rfl rfl rfl (fun c53 => ?_) (fun c53 => ?_)
                    · refine R_bipush (-7) rfl rfl ?_
                      have k54 : ((-7) : Int32).toInt = (-7) := by decide
                      have ev55 : (h.1 127 a0.toNatClampNeg).toInt = x26.toInt := by rw [← e27]
                      have ev56 : (h.1 127 a2.toNatClampNeg).toInt = x32.toInt := by rw [← e33]
                      have ev57 : (h.1 128 a0.toNatClampNeg).toInt = x36.toInt := by rw [← e37]
                      have ev58 : (h.1 128 a2.toNatClampNeg).toInt = x38.toInt := by rw [← e39]
                      exact R_iret rfl rfl rfl ⟨hI, fr, trivial, _, rfl, ⟨by rw [show ((-7) : Int32).toInt = (-7) from rfl] <;> omega, (by unfold s_paste; rw [if_pos (by omega), if_neg (by omega), if_pos (by omega), if_neg (by omega)]), trivial⟩⟩
                    · refine R_iload_n (k := 2) rfl rfl rfl ?_
                      refine N_i2l rfl (fun w59 q60 => ?_)
                      refine R_iload (k := 5) rfl rfl ?_
                      refine N_i2l rfl (fun w61 q62 => ?_)
                      refine R_ladd rfl ?_
                      refine N_eqL (fun w63 e64 => ?_)
                      have q65 : w63.toInt = w59.toInt + w61.toInt := by rw [e64]; exact l_add rfl rfl (by omega)
                      refine R_aload_n (k := 0) rfl rfl rfl ?_
                      refine R_getf_r (j := 57) rfl ft_9_107 sh_96 rfl ?_
                      refine R_iload_n (k := 1) rfl rfl rfl ?_
                      refine R_iald rfl sh_127 ⟨by omega, by omega⟩ ?_
                      refine N_eq (fun x66 e67 => ?_)
                      have q68 : (-1) ≤ x66.toInt ∧ x66.toInt ≤ 60 := by rw [e67]; exact hI.1 127 _
                      refine N_i2l rfl (fun w69 q70 => ?_)
                      refine N_lcmp (a := w63.toInt) (b := w69.toInt) rfl rfl rfl (fun x71 q72 => ?_)
                      refine N_if_gt (a := x71.toInt) 107 rfl rfl rfl (fun c73 => ?_) (fun c73 => ?_)
                      · refine R_bipush (-7) rfl rfl ?_
                        have k74 : ((-7) : Int32).toInt = (-7) := by decide
                        have ev75 : (h.1 127 a0.toNatClampNeg).toInt = x26.toInt := by rw [← e27]
                        have ev76 : (h.1 127 a2.toNatClampNeg).toInt = x32.toInt := by rw [← e33]
                        have ev77 : (h.1 128 a0.toNatClampNeg).toInt = x36.toInt := by rw [← e37]
                        have ev78 : (h.1 128 a2.toNatClampNeg).toInt = x38.toInt := by rw [← e39]
                        have ev79 : (h.1 127 a0.toNatClampNeg).toInt = x66.toInt := by rw [← e67]
                        exact R_iret rfl rfl rfl ⟨hI, fr, trivial, _, rfl, ⟨by rw [show ((-7) : Int32).toInt = (-7) from rfl] <;> omega, (by unfold s_paste; rw [if_pos (by omega), if_neg (by omega), if_pos (by omega), if_neg (by omega)]), trivial⟩⟩
                      · refine R_iload (k := 4) rfl rfl ?_
                        refine N_i2l rfl (fun w80 q81 => ?_)
                        refine R_iload (k := 5) rfl rfl ?_
                        refine N_i2l rfl (fun w82 q83 => ?_)
                        refine R_ladd rfl ?_
                        refine N_eqL (fun w84 e85 => ?_)
                        have q86 : w84.toInt = w80.toInt + w82.toInt := by rw [e85]; exact l_add rfl rfl (by omega)
                        refine R_aload_n (k := 0) rfl rfl rfl ?_
                        refine R_getf_r (j := 57) rfl ft_9_107 sh_96 rfl ?_
                        refine R_iload_n (k := 3) rfl rfl rfl ?_
                        refine R_iald rfl sh_127 ⟨by omega, by omega⟩ ?_
                        refine N_eq (fun x87 e88 => ?_)
                        have q89 : (-1) ≤ x87.toInt ∧ x87.toInt ≤ 60 := by rw [e88]; exact hI.1 127 _
                        refine N_i2l rfl (fun w90 q91 => ?_)
                        refine N_lcmp (a := w84.toInt) (b := w90.toInt) rfl rfl rfl (fun x92 q93 => ?_)
                        refine N_if_le (a := x92.toInt) 110 rfl rfl rfl (fun c94 => ?_) (fun c94 => ?_)
                        · refine R_iconst 0 rfl rfl ?_
                          refine R_istore (k := 6) [(6, .inl 0), (0, .inr (.inr (.inl 96))), (1, .inl a0), (2, .inl a1), (3, .inl a2), (4, .inl a3), (5, .inl a4)] rfl rfl (by decide) ?_
                          have lp96 : ∀ (n95 : Nat) (h97 : PH) (x99 : Int32), INV h97 → FR [129, 130] h h97 → FR [129, 130] h h97 → 0 ≤ x99.toInt ∧ x99.toInt ≤ 60 → x99.toInt ≤ a4.toInt + 0 → (60 - x99.toInt).toNat < n95 → RUN d_X9_paste 113 [(6, .inl x99), (0, .inr (.inr (.inl 96))), (1, .inl a0), (2, .inl a1), (3, .inl a2), (4, .inl a3), (5, .inl a4)] [] h97 (qg_X9_paste h a0 a1 a2 a3 a4) := by
                            intro n95
                            induction n95 with
                            | zero => intro h97 x99 m101 m102 m103 m104 m105 hz; exact absurd hz (Nat.not_lt_zero _)
                            | succ n95 ih100 =>
                              intro h97 x99 hI fr fl98 m104 m105 hz
                              refine R_iload (k := 6) rfl rfl ?_
                              refine R_iload (k := 5) rfl rfl ?_
                              refine N_icmp_ge (a := x99.toInt) (b := a4.toInt) 147 rfl rfl rfl rfl (fun c106 => ?_) (fun c106 => ?_)
                              · refine R_iconst 0 rfl rfl ?_
                                refine R_istore (k := 6) [(6, .inl 0), (0, .inr (.inr (.inl 96))), (1, .inl a0), (2, .inl a1), (3, .inl a2), (4, .inl a3), (5, .inl a4)] rfl rfl (by decide) ?_
                                have lp108 : ∀ (n107 : Nat) (h109 : PH) (x111 : Int32), INV h109 → FR [129, 130] h h109 → FR [129] h97 h109 → 0 ≤ x111.toInt ∧ x111.toInt ≤ 60 → x111.toInt ≤ a4.toInt + 0 → (60 - x111.toInt).toNat < n107 → RUN d_X9_paste 150 [(6, .inl x111), (0, .inr (.inr (.inl 96))), (1, .inl a0), (2, .inl a1), (3, .inl a2), (4, .inl a3), (5, .inl a4)] [] h109 (qg_X9_paste h a0 a1 a2 a3 a4) := by
                                  intro n107
                                  induction n107 with
                                  | zero => intro h109 x111 m113 m114 m115 m116 m117 hz; exact absurd hz (Nat.not_lt_zero _)
                                  | succ n107 ih112 =>
                                    intro h109 x111 hI fr fl110 m116 m117 hz
                                    have fl98 : FR [129, 130] h h109 := fl98.trans fl110 (by decide)
                                    refine R_iload (k := 6) rfl rfl ?_
                                    refine R_iload (k := 5) rfl rfl ?_
                                    refine N_icmp_ge (a := x111.toInt) (b := a4.toInt) 185 rfl rfl rfl rfl (fun c118 => ?_) (fun c118 => ?_)
                                    · refine R_iconst 0 rfl rfl ?_
                                      have k119 : (0 : Int32).toInt = 0 := by decide
                                      have ev120 : (h.1 127 a0.toNatClampNeg).toInt = x26.toInt := by rw [← e27]
                                      have ev121 : (h.1 127 a2.toNatClampNeg).toInt = x32.toInt := by rw [← e33]
                                      have ev122 : (h.1 128 a0.toNatClampNeg).toInt = x36.toInt := by rw [← e37]
                                      have ev123 : (h.1 128 a2.toNatClampNeg).toInt = x38.toInt := by rw [← e39]
                                      have ev124 : (h.1 127 a0.toNatClampNeg).toInt = x66.toInt := by rw [← e67]
                                      have ev125 : (h.1 127 a2.toNatClampNeg).toInt = x87.toInt := by rw [← e88]
                                      exact R_iret rfl rfl rfl ⟨hI, fr, trivial, _, rfl, ⟨by rw [show (0 : Int32).toInt = 0 from rfl] <;> omega, (by unfold s_paste; rw [if_pos (by omega), if_neg (by omega), if_pos (by omega), if_pos (by omega)]), trivial⟩⟩
                                    · refine R_aload_n (k := 0) rfl rfl rfl ?_
                                      refine R_getf_r (j := 59) rfl ft_9_113 sh_96 rfl ?_
                                      refine R_bipush 60 rfl rfl ?_
                                      refine R_iload_n (k := 3) rfl rfl rfl ?_
                                      refine R_imul rfl ?_
                                      refine N_eq (fun x126 e127 => ?_)
                                      have q128 : x126.toInt = 60 * a2.toInt := by rw [e127]; exact i_mul (by decide) rfl (by omega)
                                      refine R_iload (k := 4) rfl rfl ?_
                                      refine R_iadd rfl ?_
                                      refine N_eq (fun x129 e130 => ?_)
                                      have q131 : x129.toInt = x126.toInt + a3.toInt := by rw [e130]; exact i_add rfl rfl (by omega)
                                      refine R_iload (k := 6) rfl rfl ?_
                                      refine R_iadd rfl ?_
                                      refine N_eq (fun x132 e133 => ?_)
                                      have q134 : x132.toInt = x129.toInt + x111.toInt := by rw [e133]; exact i_add rfl rfl (by omega)
                                      refine R_aload_n (k := 0) rfl rfl rfl ?_
                                      refine R_getf_r (j := 60) rfl ft_9_117 sh_96 rfl ?_
                                      refine R_iload (k := 6) rfl rfl ?_
                                      refine R_lald rfl sh_130 ⟨by omega, by omega⟩ ?_
                                      refine N_eqL (fun w135 e136 => ?_)
                                      refine K_last (a := x132.toInt) rfl sh_129 rfl ⟨by omega, by omega⟩ hI fr (by decide) (fun h137 g138 hI fr => ?_)
                                      have fl110 : FR [129] h97 h137 := by rw [g138]; exact FR_wL _ _ fl110 (by decide)
                                      have fl98 : FR [129, 130] h h137 := by rw [g138]; exact FR_wL _ _ fl98 (by decide)
                                      refine N_iinc (a := x111.toInt) (c := 1) (fun w => [(6, .inl w), (0, .inr (.inr (.inl 96))), (1, .inl a0), (2, .inl a1), (3, .inl a2), (4, .inl a3), (5, .inl a4)]) rfl rfl (fun _ => rfl) (by decide) rfl (by decide) (by omega) (fun x139 q140 => ?_)
                                      refine R_goto 150 rfl rfl ?_
                                      exact RUN_weak (psub_cons rfl (psub_cons rfl (psub_cons rfl (psub_cons rfl (psub_cons rfl (psub_cons rfl (psub_cons rfl (psub_nil _)))))))) (ih112 h137 x139 hI fr fl110 (by omega) (by omega) (by omega))
                                have k141 : (0 : Int32).toInt = 0 := by decide
                                exact lp108 _ h97 (0 : Int32) hI fr (FR.rf _ _) (by decide) (by omega) (Nat.lt_succ_self _)
                              · refine R_aload_n (k := 0) rfl rfl rfl ?_
                                refine R_getf_r (j := 60) rfl ft_9_117 sh_96 rfl ?_
                                refine R_iload (k := 6) rfl rfl ?_
                                refine R_aload_n (k := 0) rfl rfl rfl ?_
                                refine R_getf_r (j := 59) rfl ft_9_113 sh_96 rfl ?_
                                refine R_bipush 60 rfl rfl ?_
                                refine R_iload_n (k := 1) rfl rfl rfl ?_
                                refine R_imul rfl ?_
                                refine N_eq (fun x142 e143 => ?_)
                                have q144 : x142.toInt = 60 * a0.toInt := by rw [e143]; exact i_mul (by decide) rfl (by omega)
                                refine R_iload_n (k := 2) rfl rfl rfl ?_
                                refine R_iadd rfl ?_
                                refine N_eq (fun x145 e146 => ?_)
                                have q147 : x145.toInt = x142.toInt + a1.toInt := by rw [e146]; exact i_add rfl rfl (by omega)
                                refine R_iload (k := 6) rfl rfl ?_
                                refine R_iadd rfl ?_
                                refine N_eq (fun x148 e149 => ?_)
                                have q150 : x148.toInt = x145.toInt + x99.toInt := by rw [e149]; exact i_add rfl rfl (by omega)
                                refine R_lald rfl sh_129 ⟨by omega, by omega⟩ ?_
                                refine N_eqL (fun w151 e152 => ?_)
                                refine K_last (a := x99.toInt) rfl sh_130 rfl ⟨by omega, by omega⟩ hI fr (by decide) (fun h153 g154 hI fr => ?_)
                                have fl98 : FR [129, 130] h h153 := by rw [g154]; exact FR_wL _ _ fl98 (by decide)
                                refine N_iinc (a := x99.toInt) (c := 1) (fun w => [(6, .inl w), (0, .inr (.inr (.inl 96))), (1, .inl a0), (2, .inl a1), (3, .inl a2), (4, .inl a3), (5, .inl a4)]) rfl rfl (fun _ => rfl) (by decide) rfl (by decide) (by omega) (fun x155 q156 => ?_)
                                refine R_goto 113 rfl rfl ?_
                                exact RUN_weak (psub_cons rfl (psub_cons rfl (psub_cons rfl (psub_cons rfl (psub_cons rfl (psub_cons rfl (psub_cons rfl (psub_nil _)))))))) (ih100 h153 x155 hI fr fl98 (by omega) (by omega) (by omega))
                          have k157 : (0 : Int32).toInt = 0 := by decide
                          exact lp96 _ h (0 : Int32) hI fr (FR.rf _ _) (by decide) (by omega) (Nat.lt_succ_self _)
                        · refine R_bipush (-7) rfl rfl ?_
                          have k158 : ((-7) : Int32).toInt = (-7) := by decide
                          have ev159 : (h.1 127 a0.toNatClampNeg).toInt = x26.toInt := by rw [← e27]
                          have ev160 : (h.1 127 a2.toNatClampNeg).toInt = x32.toInt := by rw [← e33]
                          have ev161 : (h.1 128 a0.toNatClampNeg).toInt = x36.toInt := by rw [← e37]
                          have ev162 : (h.1 128 a2.toNatClampNeg).toInt = x38.toInt := by rw [← e39]
                          have ev163 : (h.1 127 a0.toNatClampNeg).toInt = x66.toInt := by rw [← e67]
                          have ev164 : (h.1 127 a2.toNatClampNeg).toInt = x87.toInt := by rw [← e88]
                          exact R_iret rfl rfl rfl ⟨hI, fr, trivial, _, rfl, ⟨by rw [show ((-7) : Int32).toInt = (-7) from rfl] <;> omega, (by unfold s_paste; rw [if_pos (by omega), if_neg (by omega), if_pos (by omega), if_neg (by omega)]), trivial⟩⟩
              · refine R_bipush (-8) rfl rfl ?_
                have k165 : ((-8) : Int32).toInt = (-8) := by decide
                have ev166 : (h.1 127 a0.toNatClampNeg).toInt = x26.toInt := by rw [← e27]
                have ev167 : (h.1 127 a2.toNatClampNeg).toInt = x32.toInt := by rw [← e33]
                have ev168 : (h.1 128 a0.toNatClampNeg).toInt = x36.toInt := by rw [← e37]
                have ev169 : (h.1 128 a2.toNatClampNeg).toInt = x38.toInt := by rw [← e39]
                exact R_iret rfl rfl rfl ⟨hI, fr, trivial, _, rfl, ⟨by rw [show ((-8) : Int32).toInt = (-8) from rfl] <;> omega, (by unfold s_paste; rw [if_pos (by omega), if_neg (by omega), if_neg (by omega)]), trivial⟩⟩
            · refine R_bipush (-6) rfl rfl ?_
              have k170 : ((-6) : Int32).toInt = (-6) := by decide
              have ev171 : (h.1 127 a0.toNatClampNeg).toInt = x26.toInt := by rw [← e27]
              have ev172 : (h.1 127 a2.toNatClampNeg).toInt = x32.toInt := by rw [← e33]
              exact R_iret rfl rfl rfl ⟨hI, fr, trivial, _, rfl, ⟨by rw [show ((-6) : Int32).toInt = (-6) from rfl] <;> omega, (by unfold s_paste; rw [if_pos (by omega), if_pos (by omega)]), trivial⟩⟩
        · exfalso; omega
