abbrev q_X9_brigade (h : PH)  : Option PV → PH → Prop := fun r h' => INV h' ∧ FR [96, 97, 102] h h' ∧ (True) ∧ ∃ z : Int32, r = some (.inl z) ∧ ((True))
theorem k_X9_brigade (h : PH) (hI : INV h)  : CALL d_X9_brigade [.inr (.inr (.inl 96))] h (q_X9_brigade h) := by
  refine (g_X9_brigade h hI).mono (fun r h' p => ?_)
  obtain ⟨a, b, c, d⟩ := p
  exact ⟨a, (FR.rf _ h).trans b (by decide), trivial, d⟩
