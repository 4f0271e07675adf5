abbrev q_X9_layFits (h : PH) (a0 : Int32) : Option PV → PH → Prop := fun r h' => INV h' ∧ FR [96, 103, 104, 105, 106, 107, 108, 109, 110, 111, 112, 113, 114, 115, 116, 117, 118, 119, 124, 125] h h' ∧ (True) ∧ ∃ z : Int32, r = some (.inl z) ∧ (((-6) ≤ z.toInt ∧ z.toInt ≤ 0))
theorem k_X9_layFits (h : PH) (hI : INV h) (a0 : Int32) : CALL d_X9_layFits [.inr (.inr (.inl 96)), .inl a0] h (q_X9_layFits h a0) := by
  refine (g_X9_layFits h hI a0).mono (fun r h' p => ?_)
  obtain ⟨a, b, c, d⟩ := p
  exact ⟨a, (FR.rf _ h).trans b (by decide), trivial, d⟩
