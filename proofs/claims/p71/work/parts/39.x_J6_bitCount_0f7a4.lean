abbrev qg_J6_bitCount_0f7a4 (h : PH) (a0 : Int32) : Option PV → PH → Prop := fun r h' => h = h' ∧ ∃ z : Int32, r = some (.inl z) ∧ (((0 ≤ z.toInt ∧ z.toInt ≤ 63)) ∧ (z = bc32 a0) ∧ True)
set_option maxHeartbeats 4000000 in
set_option maxRecDepth 100000 in
theorem g_J6_bitCount_0f7a4 (h : PH) (hI : INV h) (a0 : Int32) : CALL d_J6_bitCount_0f7a4 [.inl a0] h (qg_J6_bitCount_0f7a4 h a0) := by
  show RUN d_J6_bitCount_0f7a4 0 [(0, .inl a0)] [] h _
  have b1 := i_rng a0
  refine R_iload_n (k := 0) rfl rfl rfl ?_
  refine R_iload_n (k := 0) rfl rfl rfl ?_
  refine R_iconst 1 rfl rfl ?_
  refine R_iushr rfl ?_
  refine N_eq (fun x2 e3 => ?_)
  refine R_ldcw_i (x := 1431655765) rfl kt_10_265 ?_
  refine R_iand rfl ?_
  refine N_eq (fun x4 e5 => ?_)
  have q6 : 0 ≤ x4.toInt ∧ x4.toInt ≤ 1431655765 := by rw [e5]; exact i_and (by decide) (by omega)
  have b7 := i_rng a0
  refine R_isub rfl ?_
  refine N_eq (fun x8 e9 => ?_)
  refine R_istore_n (k := 0) rfl [(0, .inl x8)] rfl rfl (by decide) ?_
  refine R_iload_n (k := 0) rfl rfl rfl ?_
  refine R_ldcw_i (x := 858993459) rfl kt_10_266 ?_
  refine R_iand rfl ?_
  refine N_eq (fun x10 e11 => ?_)
  have q12 : 0 ≤ x10.toInt ∧ x10.toInt ≤ 858993459 := by rw [e11]; exact i_and (by decide) (by omega)
  refine R_iload_n (k := 0) rfl rfl rfl ?_
  refine R_iconst 2 rfl rfl ?_
  refine R_iushr rfl ?_
  refine N_eq (fun x13 e14 => ?_)
  refine R_ldcw_i (x := 858993459) rfl kt_10_266 ?_
  refine R_iand rfl ?_
  refine N_eq (fun x15 e16 => ?_)
  have q17 : 0 ≤ x15.toInt ∧ x15.toInt ≤ 858993459 := by rw [e16]; exact i_and (by decide) (by omega)
  refine R_iadd rfl ?_
  refine N_eq (fun x18 e19 => ?_)
  have q20 : x18.toInt = x10.toInt + x15.toInt := by rw [e19]; exact i_add rfl rfl (by omega)
  refine R_istore_n (k := 0) rfl [(0, .inl x18)] rfl rfl (by decide) ?_
  refine R_iload_n (k := 0) rfl rfl rfl ?_
  refine R_iload_n (k := 0) rfl rfl rfl ?_
  refine R_iconst 4 rfl rfl ?_
  refine R_iushr rfl ?_
  refine N_eq (fun x21 e22 => ?_)
  have b23 := i_rng x21
  refine R_iadd rfl ?_
  refine N_eq (fun x24 e25 => ?_)
  refine R_ldcw_i (x := 252645135) rfl kt_10_267 ?_
  refine R_iand rfl ?_
  refine N_eq (fun x26 e27 => ?_)
  have q28 : 0 ≤ x26.toInt ∧ x26.toInt ≤ 252645135 := by rw [e27]; exact i_and (by decide) (by omega)
  refine R_istore_n (k := 0) rfl [(0, .inl x26)] rfl rfl (by decide) ?_
  refine R_iload_n (k := 0) rfl rfl rfl ?_
  refine R_iload_n (k := 0) rfl rfl rfl ?_
  refine R_bipush 8 rfl rfl ?_
  refine R_iushr rfl ?_
  refine N_eq (fun x29 e30 => ?_)
  have b31 := i_rng x29
  refine R_iadd rfl ?_
  refine N_eq (fun x32 e33 => ?_)
  refine R_istore_n (k := 0) rfl [(0, .inl x32)] rfl rfl (by decide) ?_
  refine R_iload_n (k := 0) rfl rfl rfl ?_
  refine R_iload_n (k := 0) rfl rfl rfl ?_
  refine R_bipush 16 rfl rfl ?_
  refine R_iushr rfl ?_
  refine N_eq (fun x34 e35 => ?_)
  have b36 := i_rng x32
  have b37 := i_rng x34
  refine R_iadd rfl ?_
  refine N_eq (fun x38 e39 => ?_)
  refine R_istore_n (k := 0) rfl [(0, .inl x38)] rfl rfl (by decide) ?_
  refine R_iload_n (k := 0) rfl rfl rfl ?_
  refine R_bipush 63 rfl rfl ?_
  refine R_iand rfl ?_
  refine N_eq (fun x40 e41 => ?_)
  have q42 : 0 ≤ x40.toInt ∧ x40.toInt ≤ 63 := by rw [e41]; exact i_and (by decide) (by omega)
  exact R_iret rfl rfl rfl ⟨rfl, _, rfl, ⟨by omega, (by subst e41 e39 e35 e33 e30 e27 e25 e22 e19 e16 e14 e11 e9 e5 e3; rfl), trivial⟩⟩
