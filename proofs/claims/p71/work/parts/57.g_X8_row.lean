abbrev qg_X8_row (h : PH) (a0 : Int32) (a1 : Int32) (a2 : Int32) : Option PV → PH → Prop := fun r h' => INV h' ∧ FR [67, 68, 69] h h' ∧ ((h'.1 68 = rowR (h.1 68) a0 a1 a2 a2) ∧ (h'.1 69 = rowR (h.1 69) a0 a1 a2 a1) ∧ True) ∧ ∃ z : Int32, r = some (.inl z) ∧ ((((-3) ≤ z.toInt ∧ z.toInt ≤ 0)) ∧ (z = s_row a0.toInt a1.toInt a2.toInt) ∧ True)
set_option maxHeartbeats 4000000 in
set_option maxRecDepth 100000 in
theorem g_X8_row (h : PH) (hI : INV h) (a0 : Int32) (a1 : Int32) (a2 : Int32) : CALL d_X8_row [.inr (.inr (.inl 0)), .inl a0, .inl a1, .inl a2] h (qg_X8_row h a0 a1 a2) := by
  show RUN d_X8_row 0 [(0, .inr (.inr (.inl 0))), (1, .inl a0), (2, .inl a1), (3, .inl a2)] [] h _
  have b1 := i_rng a0
  have b2 := i_rng a1
  have b3 := i_rng a2
  have fr : FR [67, 68, 69] h h := FR.rf _ _
  refine R_aload_n (k := 0) rfl rfl rfl ?_
  refine R_getf_r (j := 6) rfl ft_8_42 sh_0 rfl ?_
  refine R_iload_n (k := 1) rfl rfl rfl ?_
  refine R_callV (v := .inr (.inr (.inl 66))) (As := [.inl a0]) (rest := []) rfl mt_8_i386 pp_X5_isSlot (by decide) rfl rfl rfl (Nat.le_of_ble_eq_true rfl) (Nat.le_of_ble_eq_true rfl) ((k_X5_isSlot h hI a0).mono (fun r4 h5 p6 => ?_))
  obtain ⟨rfl, x7, rfl, q8 | q8 | q8⟩ := p6
  · show RUN d_X8_row 8 [(0, .inr (.inr (.inl 0))), (1, .inl a0), (2, .inl a1), (3, .inl a2)] [.inl x7] h _
    refine N_if_eq (a := x7.toInt) 26 rfl rfl rfl (fun c9 => ?_) (fun c9 => ?_)
    · refine R_bipush (-2) rfl rfl ?_
      have k10 : ((-2) : Int32).toInt = (-2) := by decide
      exact R_iret rfl rfl rfl ⟨hI, fr, ⟨row_no (by omega) rfl, row_no (by omega) rfl, trivial⟩, _, rfl, ⟨by rw [show ((-2) : Int32).toInt = (-2) from rfl] <;> omega, (by unfold s_row; rw [if_pos (by omega)]), trivial⟩⟩
    · exfalso; omega
  · show RUN d_X8_row 8 [(0, .inr (.inr (.inl 0))), (1, .inl a0), (2, .inl a1), (3, .inl a2)] [.inl x7] h _
    refine N_if_eq (a := x7.toInt) 26 rfl rfl rfl (fun c11 => ?_) (fun c11 => ?_)
    · refine R_bipush (-2) rfl rfl ?_
      have k12 : ((-2) : Int32).toInt = (-2) := by decide
      exact R_iret rfl rfl rfl ⟨hI, fr, ⟨row_no (by omega) rfl, row_no (by omega) rfl, trivial⟩, _, rfl, ⟨by rw [show ((-2) : Int32).toInt = (-2) from rfl] <;> omega, (by unfold s_row; rw [if_pos (by omega)]), trivial⟩⟩
    · exfalso; omega
  · show RUN d_X8_row 8 [(0, .inr (.inr (.inl 0))), (1, .inl a0), (2, .inl a1), (3, .inl a2)] [.inl x7] h _
    refine N_if_eq (a := x7.toInt) 26 rfl rfl rfl (fun c13 => ?_) (fun c13 => ?_)
    · exfalso; omega
    · refine R_iload_n (k := 2) rfl rfl rfl ?_
      refine N_if_lt (a := a1.toInt) 26 rfl rfl rfl (fun c14 => ?_) (fun c14 => ?_)
      · refine R_bipush (-2) rfl rfl ?_
        have k15 : ((-2) : Int32).toInt = (-2) := by decide
        exact R_iret rfl rfl rfl ⟨hI, fr, ⟨row_no (by omega) rfl, row_no (by omega) rfl, trivial⟩, _, rfl, ⟨by rw [show ((-2) : Int32).toInt = (-2) from rfl] <;> omega, (by unfold s_row; rw [if_pos (by omega)]), trivial⟩⟩
      · refine R_iload_n (k := 2) rfl rfl rfl ?_
        refine R_iconst 3 rfl rfl ?_
        refine N_icmp_gt (a := a1.toInt) (b := 3) 26 rfl rfl rfl (by decide) (fun c16 => ?_) (fun c16 => ?_)
        · refine R_bipush (-2) rfl rfl ?_
          have k17 : ((-2) : Int32).toInt = (-2) := by decide
          exact R_iret rfl rfl rfl ⟨hI, fr, ⟨row_no (by omega) rfl, row_no (by omega) rfl, trivial⟩, _, rfl, ⟨by rw [show ((-2) : Int32).toInt = (-2) from rfl] <;> omega, (by unfold s_row; rw [if_pos (by omega)]), trivial⟩⟩
        · refine R_iload_n (k := 3) rfl rfl rfl ?_
          refine R_bipush 60 rfl rfl ?_
          refine N_icmp_le (a := a2.toInt) (b := 60) 29 rfl rfl rfl (by decide) (fun c18 => ?_) (fun c18 => ?_)
          · refine R_iload_n (k := 3) rfl rfl rfl ?_
            refine N_if_ge (a := a2.toInt) 36 rfl rfl rfl (fun c19 => ?_) (fun c19 => ?_)
            · refine R_aload_n (k := 0) rfl rfl rfl ?_
              refine R_getf_r (j := 6) rfl ft_8_42 sh_0 rfl ?_
              refine R_iload_n (k := 1) rfl rfl rfl ?_
              refine R_iload_n (k := 2) rfl rfl rfl ?_
              refine R_iload_n (k := 3) rfl rfl rfl ?_
              refine R_callV (v := .inr (.inr (.inl 66))) (As := [.inl a0, .inl a1, .inl a2]) (rest := []) rfl mt_8_i389 pp_X5_makeRow (by decide) rfl rfl rfl (Nat.le_of_ble_eq_true rfl) (Nat.le_of_ble_eq_true rfl) ((g_X5_makeRow h hI a0 a1 a2 (by omega) (by omega) (by omega)).mono (fun r20 h21 p22 => ?_))
              obtain ⟨hJ, fj, ⟨xq23, xq24, -⟩, rfl⟩ := p22
              have f25 := fj
              have fr := fr.trans fj (by decide)
              have hI := hJ
              show RUN d_X8_row 46 [(0, .inr (.inr (.inl 0))), (1, .inl a0), (2, .inl a1), (3, .inl a2)] [] h21 _
              refine R_iconst 0 rfl rfl ?_
              have k26 : (0 : Int32).toInt = 0 := by decide
              exact R_iret rfl rfl rfl ⟨hI, fr, ⟨row_of (by omega) xq23, row_of (by omega) xq24, trivial⟩, _, rfl, ⟨by rw [show (0 : Int32).toInt = 0 from rfl] <;> omega, (by unfold s_row; rw [if_neg (by omega), if_neg (by omega)]), trivial⟩⟩
            · refine R_bipush (-3) rfl rfl ?_
              have k27 : ((-3) : Int32).toInt = (-3) := by decide
              exact R_iret rfl rfl rfl ⟨hI, fr, ⟨row_no (by omega) rfl, row_no (by omega) rfl, trivial⟩, _, rfl, ⟨by rw [show ((-3) : Int32).toInt = (-3) from rfl] <;> omega, (by unfold s_row; rw [if_neg (by omega), if_pos (by omega)]), trivial⟩⟩
          · refine R_bipush (-2) rfl rfl ?_
            have k28 : ((-2) : Int32).toInt = (-2) := by decide
            exact R_iret rfl rfl rfl ⟨hI, fr, ⟨row_no (by omega) rfl, row_no (by omega) rfl, trivial⟩, _, rfl, ⟨by rw [show ((-2) : Int32).toInt = (-2) from rfl] <;> omega, (by unfold s_row; rw [if_pos (by omega)]), trivial⟩⟩
