abbrev qg_X9_numberAt (h : PH) (a0 : Int32) (a1 : Int32) : Option PV → PH → Prop := fun r h' => h = h' ∧ ∃ z : Int64, r = some (.inr (.inl z)) ∧ (z = h.2 129 (60 * a0.toInt + a1.toInt).toNat) ∧ True
set_option maxHeartbeats 4000000 in
set_option maxRecDepth 100000 in
theorem g_X9_numberAt (h : PH) (hI : INV h) (a0 : Int32) (a1 : Int32) (h0a : 0 ≤ a0.toInt ∧ a0.toInt ≤ 3) (h1a : 0 ≤ a1.toInt ∧ a1.toInt ≤ 59) : CALL d_X9_numberAt [.inr (.inr (.inl 96)), .inl a0, .inl a1] h (qg_X9_numberAt h a0 a1) := by
  show RUN d_X9_numberAt 0 [(0, .inr (.inr (.inl 96))), (1, .inl a0), (2, .inl a1)] [] h _
  refine R_aload_n (k := 0) rfl rfl rfl ?_
  refine R_getf_r (j := 59) rfl ft_9_113 sh_96 rfl ?_
  refine R_bipush 60 rfl rfl ?_
  refine R_iload_n (k := 1) rfl rfl rfl ?_
  refine R_imul rfl ?_
  refine N_eq (fun x1 e2 => ?_)
  have q3 : x1.toInt = 60 * a0.toInt := by rw [e2]; exact i_mul (by decide) rfl (by omega)
  refine R_iload_n (k := 2) rfl rfl rfl ?_
  refine R_iadd rfl ?_
  refine N_eq (fun x4 e5 => ?_)
  have q6 : x4.toInt = x1.toInt + a1.toInt := by rw [e5]; exact i_add rfl rfl (by omega)
  refine R_lald rfl sh_129 ⟨by omega, by omega⟩ ?_
  refine N_eqL (fun w7 e8 => ?_)
  exact R_lret rfl rfl ⟨rfl, _, rfl, (by rw [e8, tn2 (a := 60 * a0.toInt + a1.toInt) (by omega) (by omega)]), trivial⟩
