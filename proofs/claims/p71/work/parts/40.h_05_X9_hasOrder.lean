abbrev q_X9_hasOrder (h : PH) (a0 : Int32) : Option PV → PH → Prop := fun r h' => INV h' ∧ FR [96, 103, 104, 105, 106] h h' ∧ (True) ∧ ∃ z : Int32, r = some (.inl z) ∧ ((z.toInt = 0) ∨ (z.toInt = 1))
theorem k_X9_hasOrder (h : PH) (hI : INV h) (a0 : Int32) (h0a : 0 ≤ a0.toInt ∧ a0.toInt ≤ 31) : CALL d_X9_hasOrder [.inr (.inr (.inl 96)), .inl a0] h (q_X9_hasOrder h a0) := by
  refine (g_X9_hasOrder h hI a0 h0a).mono (fun r h' p => ?_)
  obtain ⟨a, b, c, d⟩ := p
  exact ⟨a, (FR.rf _ h).trans b (by decide), trivial, d⟩
