abbrev qg_X9_write (h : PH) (a0 : Int32) (a1 : Int32) (a2 : Int64) : Option PV → PH → Prop := fun r h' => INV h' ∧ FR [129] h h' ∧ (True) ∧ ∃ z : Int32, r = some (.inl z) ∧ ((((-7) ≤ z.toInt ∧ z.toInt ≤ 0)) ∧ (z = s_write a0.toInt a1.toInt (h.1 127 a0.toNatClampNeg).toInt) ∧ True)
set_option maxHeartbeats 4000000 in
set_option maxRecDepth 100000 in
theorem g_X9_write (h : PH) (hI : INV h) (a0 : Int32) (a1 : Int32) (a2 : Int64) : CALL d_X9_write [.inr (.inr (.inl 96)), .inl a0, .inl a1, .inr (.inl a2)] h (qg_X9_write h a0 a1 a2) := by
  show RUN d_X9_write 0 [(0, .inr (.inr (.inl 96))), (1, .inl a0), (2, .inl a1), (3, .inr (.inl a2))] [] h _
  have b1 := i_rng a0
  have b2 := i_rng a1
  have fr : FR [129] h h := FR.rf _ _
  refine R_iload_n (k := 1) rfl rfl rfl ?_
  refine R_callS (As := [.inl a0]) (rest := []) rfl mt_9_i440 (by decide) pp_X9_isSlot (by decide) rfl rfl (Nat.le_of_ble_eq_true rfl) (Nat.le_of_ble_eq_true rfl) ((k_X9_isSlot h hI a0).mono (fun r3 h4 p5 => ?_))
  obtain ⟨rfl, x6, rfl, q7 | q7 | q7⟩ := p5
  · show RUN d_X9_write 4 [(0, .inr (.inr (.inl 96))), (1, .inl a0), (2, .inl a1), (3, .inr (.inl a2))] [.inl x6] h _
    refine N_if_ne (a := x6.toInt) 10 rfl rfl rfl (fun c8 => ?_) (fun c8 => ?_)
    · exfalso; omega
    · refine R_bipush (-2) rfl rfl ?_
      have k9 : ((-2) : Int32).toInt = (-2) := by decide
      exact R_iret rfl rfl rfl ⟨hI, fr, trivial, _, rfl, ⟨by rw [show ((-2) : Int32).toInt = (-2) from rfl] <;> omega, (by unfold s_write; rw [if_neg (by omega)]), trivial⟩⟩
  · show RUN d_X9_write 4 [(0, .inr (.inr (.inl 96))), (1, .inl a0), (2, .inl a1), (3, .inr (.inl a2))] [.inl x6] h _
    refine N_if_ne (a := x6.toInt) 10 rfl rfl rfl (fun c10 => ?_) (fun c10 => ?_)
    · exfalso; omega
    · refine R_bipush (-2) rfl rfl ?_
      have k11 : ((-2) : Int32).toInt = (-2) := by decide
      exact R_iret rfl rfl rfl ⟨hI, fr, trivial, _, rfl, ⟨by rw [show ((-2) : Int32).toInt = (-2) from rfl] <;> omega, (by unfold s_write; rw [if_neg (by omega)]), trivial⟩⟩
  · show RUN d_X9_write 4 [(0, .inr (.inr (.inl 96))), (1, .inl a0), (2, .inl a1), (3, .inr (.inl a2))] [.inl x6] h _
    refine N_if_ne (a := x6.toInt) 10 rfl rfl rfl (fun c12 => ?_) (fun c12 => ?_)
    · refine R_aload_n (k := 0) rfl rfl rfl ?_
      refine R_getf_r (j := 57) rfl ft_9_107 sh_96 rfl ?_
      refine R_iload_n (k := 1) rfl rfl rfl ?_
      refine R_iald rfl sh_127 ⟨by omega, by omega⟩ ?_
      refine N_eq (fun x13 e14 => ?_)
      have q15 : (-1) ≤ x13.toInt ∧ x13.toInt ≤ 60 := by rw [e14]; exact hI.1 127 _
      refine R_iconst (-1) rfl rfl ?_
      refine N_icmp_ne (a := x13.toInt) (b := (-1)) 23 rfl rfl rfl (by decide) (fun c16 => ?_) (fun c16 => ?_)
      · refine R_iload_n (k := 2) rfl rfl rfl ?_
        refine N_i2l rfl (fun w17 q18 => ?_)
        refine R_lconst 0 rfl rfl ?_
        refine R_aload_n (k := 0) rfl rfl rfl ?_
        refine R_getf_r (j := 57) rfl ft_9_107 sh_96 rfl ?_
        refine R_iload_n (k := 1) rfl rfl rfl ?_
        refine R_iald rfl sh_127 ⟨by omega, by omega⟩ ?_
        refine N_eq (fun x19 e20 => ?_)
        have q21 : (-1) ≤ x19.toInt ∧ x19.toInt ≤ 60 := by rw [e20]; exact hI.1 127 _
        have em22 : x19.toInt = x13.toInt := by rw [e20, e14]
        refine R_iconst 1 rfl rfl ?_
        refine R_isub rfl ?_
        refine N_eq (fun x23 e24 => ?_)
        have q25 : x23.toInt = x19.toInt - 1 := by rw [e24]; exact i_sub rfl (by decide) (by omega)
        refine N_i2l rfl (fun w26 q27 => ?_)
        have k28 : (0 : Int64).toInt = 0 := by decide
        refine R_callS (As := [.inr (.inl w17), .inr (.inl 0), .inr (.inl w26)]) (rest := []) rfl mt_9_i125 (by decide) pp_X9_in (by decide) rfl rfl (Nat.le_of_ble_eq_true rfl) (Nat.le_of_ble_eq_true rfl) ((k_X9_in h hI w17 (0 : Int64) w26).mono (fun r29 h30 p31 => ?_))
        obtain ⟨rfl, x32, rfl, q33 | q33 | q33⟩ := p31
        · show RUN d_X9_write 38 [(0, .inr (.inr (.inl 96))), (1, .inl a0), (2, .inl a1), (3, .inr (.inl a2))] [.inl x32] h _
          refine N_if_ne (a := x32.toInt) 44 rfl rfl rfl (fun c34 => ?_) (fun c34 => ?_)
          · exfalso; omega
          · refine R_bipush (-7) rfl rfl ?_
            have k35 : ((-7) : Int32).toInt = (-7) := by decide
            have ew36 : (h.1 127 a0.toNatClampNeg).toInt = x19.toInt := by rw [← e20]
            exact R_iret rfl rfl rfl ⟨hI, fr, trivial, _, rfl, ⟨by rw [show ((-7) : Int32).toInt = (-7) from rfl] <;> omega, (by unfold s_write; rw [if_pos (by omega), if_neg (by omega), if_neg (by omega)]), trivial⟩⟩
        · show RUN d_X9_write 38 [(0, .inr (.inr (.inl 96))), (1, .inl a0), (2, .inl a1), (3, .inr (.inl a2))] [.inl x32] h _
          refine N_if_ne (a := x32.toInt) 44 rfl rfl rfl (fun c37 => ?_) (fun c37 => ?_)
          · exfalso; omega
          · refine R_bipush (-7) rfl rfl ?_
            have k38 : ((-7) : Int32).toInt = (-7) := by decide
            have ew39 : (h.1 127 a0.toNatClampNeg).toInt = x19.toInt := by rw [← e20]
            exact R_iret rfl rfl rfl ⟨hI, fr, trivial, _, rfl, ⟨by rw [show ((-7) : Int32).toInt = (-7) from rfl] <;> omega, (by unfold s_write; rw [if_pos (by omega), if_neg (by omega), if_neg (by omega)]), trivial⟩⟩
        · show RUN d_X9_write 38 [(0, .inr (.inr (.inl 96))), (1, .inl a0), (2, .inl a1), (3, .inr (.inl a2))] [.inl x32] h _
          refine N_if_ne (a := x32.toInt) 44 rfl rfl rfl (fun c40 => ?_) (fun c40 => ?_)
          · refine R_aload_n (k := 0) rfl rfl rfl ?_
            refine R_getf_r (j := 59) rfl ft_9_113 sh_96 rfl ?_
            refine R_bipush 60 rfl rfl ?_
            refine R_iload_n (k := 1) rfl rfl rfl ?_
            refine R_imul rfl ?_
            refine N_eq (fun x41 e42 => ?_)
            have q43 : x41.toInt = 60 * a0.toInt := by rw [e42]; exact i_mul (by decide) rfl (by omega)
            refine R_iload_n (k := 2) rfl rfl rfl ?_
            refine R_iadd rfl ?_
            refine N_eq (fun x44 e45 => ?_)
            have q46 : x44.toInt = x41.toInt + a1.toInt := by rw [e45]; exact i_add rfl rfl (by omega)
            refine R_lload_n (k := 3) rfl rfl rfl ?_
            refine R_aload_n (k := 0) rfl rfl rfl ?_
            refine R_getf_r (j := 58) rfl ft_9_110 sh_96 rfl ?_
            refine R_iload_n (k := 1) rfl rfl rfl ?_
            refine R_iald rfl sh_128 ⟨by omega, by omega⟩ ?_
            refine N_eq (fun x47 e48 => ?_)
            refine R_callS (As := [.inr (.inl a2), .inl x47]) (rest := [.inl x44, .inr (.inr (.inl 129))]) rfl mt_9_i531 (by decide) pp_X9_cut (by decide) rfl rfl (Nat.le_of_ble_eq_true rfl) (Nat.le_of_ble_eq_true rfl) ((k_X9_cut h hI a2 x47).mono (fun r49 h50 p51 => ?_))
            obtain ⟨rfl, w52, rfl⟩ := p51
            show RUN d_X9_write 64 [(0, .inr (.inr (.inl 96))), (1, .inl a0), (2, .inl a1), (3, .inr (.inl a2))] [.inr (.inl w52), .inl x44, .inr (.inr (.inl 129))] h _
            refine K_last (a := x44.toInt) rfl sh_129 rfl ⟨by omega, by omega⟩ hI fr (by decide) (fun h53 g54 hI fr => ?_)
            refine R_iconst 0 rfl rfl ?_
            have k55 : (0 : Int32).toInt = 0 := by decide
            have ew56 : (h.1 127 a0.toNatClampNeg).toInt = x19.toInt := by rw [← e20]
            exact R_iret rfl rfl rfl ⟨hI, fr, trivial, _, rfl, ⟨by rw [show (0 : Int32).toInt = 0 from rfl] <;> omega, (by unfold s_write; rw [if_pos (by omega), if_neg (by omega), if_pos (by omega)]), trivial⟩⟩
          · exfalso; omega
      · refine R_bipush (-6) rfl rfl ?_
        have k57 : ((-6) : Int32).toInt = (-6) := by decide
        exact R_iret rfl rfl rfl ⟨hI, fr, trivial, _, rfl, ⟨by rw [show ((-6) : Int32).toInt = (-6) from rfl] <;> omega, (by unfold s_write; rw [if_pos (by omega), if_pos (by rw [← e14]; omega)]), trivial⟩⟩
    · exfalso; omega
