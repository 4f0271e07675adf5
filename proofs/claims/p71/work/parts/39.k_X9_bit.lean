abbrev qg_X9_bit (h : PH) (a0 : Int32) (a1 : Int32) : Option PV → PH → Prop := fun r h' => h = h' ∧ ∃ z : Int32, r = some (.inl z) ∧ (((0 ≤ z.toInt ∧ z.toInt ≤ 1)) ∧ (0 ≤ a1.toInt ∧ a1.toInt ≤ 7 ∧ a0.toInt = 0 → z.toInt = 0) ∧ (bitS a1.toInt a0.toInt z.toInt) ∧ True)
set_option maxHeartbeats 4000000 in
set_option maxRecDepth 100000 in
theorem g_X9_bit (h : PH) (hI : INV h) (a0 : Int32) (a1 : Int32) (h1a : 0 ≤ a1.toInt ∧ a1.toInt ≤ 7) : CALL d_X9_bit [.inl a0, .inl a1] h (qg_X9_bit h a0 a1) := by
  show RUN d_X9_bit 0 [(0, .inl a0), (1, .inl a1)] [] h _
  have b1 := i_rng a0
  refine R_iload_n (k := 0) rfl rfl rfl ?_
  refine R_iload_n (k := 1) rfl rfl rfl ?_
  refine R_ishr rfl ?_
  refine N_eq (fun x2 e3 => ?_)
  refine R_iconst 1 rfl rfl ?_
  refine R_iand rfl ?_
  refine N_eq (fun x4 e5 => ?_)
  have q6 : 0 ≤ x4.toInt ∧ x4.toInt ≤ 1 := by rw [e5]; exact i_and (by decide) (by omega)
  exact R_iret rfl rfl rfl ⟨rfl, _, rfl, ⟨by omega, (fun hc => by subst e5 e3; exact bit0 ⟨hc.1, hc.2.1⟩ hc.2.2), (fun j c1 c2 c3 c4 => by subst e5 e3; exact bit1 c3 c2 c4 c1), trivial⟩⟩
