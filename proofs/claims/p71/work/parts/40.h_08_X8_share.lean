abbrev q_X8_share (h : PH) (a0 : Int32) (a1 : Int32) : Option PV → PH → Prop := fun r h' => INV h' ∧ FR [70, 71, 72, 73, 74] h h' ∧ (True) ∧ ∃ z : Int32, r = some (.inl z) ∧ ((True))
theorem k_X8_share (h : PH) (hI : INV h) (a0 : Int32) (a1 : Int32) : CALL d_X8_share [.inr (.inr (.inl 0)), .inl a0, .inl a1] h (q_X8_share h a0 a1) := by
  refine (g_X8_share h hI a0 a1).mono (fun r h' p => ?_)
  obtain ⟨a, b, c, d⟩ := p
  exact ⟨a, (FR.rf _ h).trans b (by decide), trivial, d⟩
