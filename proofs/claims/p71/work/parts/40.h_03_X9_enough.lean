abbrev q_X9_enough (h : PH)  : Option PV → PH → Prop := fun r h' => INV h' ∧ FR [96, 103, 104, 105, 106, 107, 108, 109, 110, 111, 112, 113, 114, 115, 116, 117, 118, 119] h h' ∧ (True) ∧ ∃ z : Int32, r = some (.inl z) ∧ ((True))
theorem k_X9_enough (h : PH) (hI : INV h)  : CALL d_X9_enough [.inr (.inr (.inl 96))] h (q_X9_enough h) := by
  refine (g_X9_enough h hI).mono (fun r h' p => ?_)
  obtain ⟨a, b, -, z, e, -⟩ := p
  exact ⟨a, (FR.rf _ h).trans b (by decide), trivial, z, e, trivial⟩
