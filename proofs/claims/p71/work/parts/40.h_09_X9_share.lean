abbrev q_X9_share (h : PH) (a0 : Int32) (a1 : Int32) : Option PV → PH → Prop := fun r h' => INV h' ∧ FR [96, 103, 104, 105, 106, 107, 108, 109, 110, 111, 112, 113, 114, 115, 116, 117, 118, 119, 126] h h' ∧ (True) ∧ ∃ z : Int32, r = some (.inl z) ∧ ((True))
theorem k_X9_share (h : PH) (hI : INV h) (a0 : Int32) (a1 : Int32) : CALL d_X9_share [.inr (.inr (.inl 96)), .inl a0, .inl a1] h (q_X9_share h a0 a1) := by
  refine (g_X9_share h hI a0 a1).mono (fun r h' p => ?_)
  obtain ⟨a, b, c, d⟩ := p
  exact ⟨a, (FR.rf _ h).trans b (by decide), trivial, d⟩
