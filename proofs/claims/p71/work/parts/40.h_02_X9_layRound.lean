abbrev q_X9_layRound (h : PH)  : Option PV → PH → Prop := fun r h' => INV h' ∧ FR [96, 103, 104, 105, 106, 107, 108, 109, 117, 118, 121, 122] h h' ∧ ((1 ≤ (h'.1 96 42).toInt) ∧ True) ∧ r = none
theorem k_X9_layRound (h : PH) (hI : INV h)  : CALL d_X9_layRound [.inr (.inr (.inl 96))] h (q_X9_layRound h) := by
  refine (g_X9_layRound h hI).mono (fun r h' p => ?_)
  obtain ⟨a, b, c, e⟩ := p
  exact ⟨a, (FR.rf _ h).trans b (by decide), ⟨by omega, trivial⟩, e⟩
