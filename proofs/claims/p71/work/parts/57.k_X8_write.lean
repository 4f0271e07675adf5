abbrev qg_X8_write (h : PH) (a0 : Int32) (a1 : Int32) (a2 : Int64) : Option PV → PH → Prop := fun r h' => INV h' ∧ FR [67] h h' ∧ (True) ∧ ∃ z : Int32, r = some (.inl z) ∧ ((((-7) ≤ z.toInt ∧ z.toInt ≤ 0)) ∧ (z = s_write a0.toInt a1.toInt (h.1 68 a0.toNatClampNeg).toInt) ∧ True)
set_option maxHeartbeats 4000000 in
set_option maxRecDepth 100000 in
theorem g_X8_write (h : PH) (hI : INV h) (a0 : Int32) (a1 : Int32) (a2 : Int64) : CALL d_X8_write [.inr (.inr (.inl 0)), .inl a0, .inl a1, .inr (.inl a2)] h (qg_X8_write h a0 a1 a2) := by
  show RUN d_X8_write 0 [(0, .inr (.inr (.inl 0))), (1, .inl a0), (2, .inl a1), (3, .inr (.inl a2))] [] h _
  have b1 := i_rng a0
  have b2 := i_rng a1
  have fr : FR [67] h h := FR.rf _ _
  refine R_aload_n (k := 0) rfl rfl rfl ?_
  refine R_getf_r (j := 6) rfl ft_8_42 sh_0 rfl ?_
  refine R_iload_n (k := 1) rfl rfl rfl ?_
  refine R_callV (v := .inr (.inr (.inl 66))) (As := [.inl a0]) (rest := []) rfl mt_8_i386 pp_X5_isSlot (by decide) rfl rfl rfl (Nat.le_of_ble_eq_true rfl) (Nat.le_of_ble_eq_true rfl) ((k_X5_isSlot h hI a0).mono (fun r3 h4 p5 => ?_))
  obtain ⟨rfl, x6, rfl, q7 | q7 | q7⟩ := p5
  · show RUN d_X8_write 8 [(0, .inr (.inr (.inl 0))), (1, .inl a0), (2, .inl a1), (3, .inr (.inl a2))] [.inl x6] h _
    refine N_if_ne (a := x6.toInt) 14 rfl rfl rfl (fun c8 => ?_) (fun c8 => ?_)
    · exfalso; omega
    · refine R_bipush (-2) rfl rfl ?_
      have k9 : ((-2) : Int32).toInt = (-2) := by decide
      exact R_iret rfl rfl rfl ⟨hI, fr, trivial, _, rfl, ⟨by rw [show ((-2) : Int32).toInt = (-2) from rfl] <;> omega, (by unfold s_write; rw [if_neg (by omega)]), trivial⟩⟩
  · show RUN d_X8_write 8 [(0, .inr (.inr (.inl 0))), (1, .inl a0), (2, .inl a1), (3, .inr (.inl a2))] [.inl x6] h _
    refine N_if_ne (a := x6.toInt) 14 rfl rfl rfl (fun c10 => ?_) (fun c10 => ?_)
    · exfalso; omega
    · refine R_bipush (-2) rfl rfl ?_
      have k11 : ((-2) : Int32).toInt = (-2) := by decide
      exact R_iret rfl rfl rfl ⟨hI, fr, trivial, _, rfl, ⟨by rw [show ((-2) : Int32).toInt = (-2) from rfl] <;> omega, (by unfold s_write; rw [if_neg (by omega)]), trivial⟩⟩
  · show RUN d_X8_write 8 [(0, .inr (.inr (.inl 0))), (1, .inl a0), (2, .inl a1), (3, .inr (.inl a2))] [.inl x6] h _
    refine N_if_ne (a := x6.toInt) 14 rfl rfl rfl (fun c12 => ?_) (fun c12 => ?_)
    · refine R_aload_n (k := 0) rfl rfl rfl ?_
      refine R_getf_r (j := 6) rfl ft_8_42 sh_0 rfl ?_
      refine R_iload_n (k := 1) rfl rfl rfl ?_
      refine R_callV (v := .inr (.inr (.inl 66))) (As := [.inl a0]) (rest := []) rfl mt_8_i392 pp_X5_hasRow (by decide) rfl rfl rfl (Nat.le_of_ble_eq_true rfl) (Nat.le_of_ble_eq_true rfl) ((g_X5_hasRow h hI a0 (by omega)).mono (fun r13 h14 p15 => ?_))
      obtain ⟨rfl, x18, rfl, (q19 | q19), zq16, zq17, -⟩ := p15
      · show RUN d_X8_write 22 [(0, .inr (.inr (.inl 0))), (1, .inl a0), (2, .inl a1), (3, .inr (.inl a2))] [.inl x18] h _
        refine N_if_ne (a := x18.toInt) 28 rfl rfl rfl (fun c20 => ?_) (fun c20 => ?_)
        · exfalso; omega
        · refine R_bipush (-6) rfl rfl ?_
          have k21 : ((-6) : Int32).toInt = (-6) := by decide
          exact R_iret rfl rfl rfl ⟨hI, fr, trivial, _, rfl, ⟨by rw [show ((-6) : Int32).toInt = (-6) from rfl] <;> omega, (by unfold s_write; rw [if_pos (by omega), if_pos (zq17 (by omega))]), trivial⟩⟩
      · show RUN d_X8_write 22 [(0, .inr (.inr (.inl 0))), (1, .inl a0), (2, .inl a1), (3, .inr (.inl a2))] [.inl x18] h _
        refine N_if_ne (a := x18.toInt) 28 rfl rfl rfl (fun c22 => ?_) (fun c22 => ?_)
        · refine R_iload_n (k := 2) rfl rfl rfl ?_
          refine N_if_lt (a := a1.toInt) 45 rfl rfl rfl (fun c23 => ?_) (fun c23 => ?_)
          · refine R_bipush (-7) rfl rfl ?_
            have k24 : ((-7) : Int32).toInt = (-7) := by decide
            exact R_iret rfl rfl rfl ⟨hI, fr, trivial, _, rfl, ⟨by rw [show ((-7) : Int32).toInt = (-7) from rfl] <;> omega, (by unfold s_write; rw [if_pos (by omega), if_neg (zq16 (by omega)), if_neg (by omega)]), trivial⟩⟩
          · refine R_iload_n (k := 2) rfl rfl rfl ?_
            refine R_aload_n (k := 0) rfl rfl rfl ?_
            refine R_getf_r (j := 6) rfl ft_8_42 sh_0 rfl ?_
            refine R_getf_r (j := 1) rfl ft_8_395 sh_66 rfl ?_
            refine R_iload_n (k := 1) rfl rfl rfl ?_
            refine R_iald rfl sh_68 ⟨by omega, by omega⟩ ?_
            refine N_eq (fun x25 e26 => ?_)
            have q27 : (-1) ≤ x25.toInt ∧ x25.toInt ≤ 60 := by rw [e26]; exact hI.1 68 _
            refine N_icmp_lt (a := a1.toInt) (b := x25.toInt) 48 rfl rfl rfl rfl (fun c28 => ?_) (fun c28 => ?_)
            · refine R_aload_n (k := 0) rfl rfl rfl ?_
              refine R_getf_r (j := 6) rfl ft_8_42 sh_0 rfl ?_
              refine R_iload_n (k := 1) rfl rfl rfl ?_
              refine R_iload_n (k := 2) rfl rfl rfl ?_
              refine R_lload_n (k := 3) rfl rfl rfl ?_
              refine R_callV (v := .inr (.inr (.inl 66))) (As := [.inl a0, .inl a1, .inr (.inl a2)]) (rest := []) rfl mt_8_i397 pp_X5_setCell (by decide) rfl rfl rfl (Nat.le_of_ble_eq_true rfl) (Nat.le_of_ble_eq_true rfl) ((k_X5_setCell h hI a0 a1 a2 (by omega) (by omega)).mono (fun r29 h30 p31 => ?_))
              obtain ⟨hJ, fj, -, rfl⟩ := p31
              have f32 := fj
              have fr := fr.trans fj (by decide)
              have hI := hJ
              show RUN d_X8_write 58 [(0, .inr (.inr (.inl 0))), (1, .inl a0), (2, .inl a1), (3, .inr (.inl a2))] [] h30 _
              refine R_iconst 0 rfl rfl ?_
              have k33 : (0 : Int32).toInt = 0 := by decide
              exact R_iret rfl rfl rfl ⟨hI, fr, trivial, _, rfl, ⟨by rw [show (0 : Int32).toInt = 0 from rfl] <;> omega, (by unfold s_write; rw [if_pos (by omega), if_neg (zq16 (by omega)), if_pos (by rw [← e26]; omega)]), trivial⟩⟩
            · refine R_bipush (-7) rfl rfl ?_
              have k34 : ((-7) : Int32).toInt = (-7) := by decide
              exact R_iret rfl rfl rfl ⟨hI, fr, trivial, _, rfl, ⟨by rw [show ((-7) : Int32).toInt = (-7) from rfl] <;> omega, (by unfold s_write; rw [if_pos (by omega), if_neg (zq16 (by omega)), if_neg (by rw [← e26]; omega)]), trivial⟩⟩
        · exfalso; omega
    · exfalso; omega
