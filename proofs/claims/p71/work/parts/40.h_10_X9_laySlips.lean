abbrev q_X9_laySlips (h : PH) (a0 : Int32) (a1 : Int32) : Option PV → PH → Prop := fun r h' => INV h' ∧ FR [96, 103, 104, 105, 106, 107, 108, 109, 110, 111, 112, 113, 114, 115, 116, 117, 118, 119] h h' ∧ ((¬ (h'.2 96 54).toInt = 0) ∧ True) ∧ r = none
theorem k_X9_laySlips (h : PH) (hI : INV h) (a0 : Int32) (a1 : Int32) (h0a : 0 ≤ a0.toInt ∧ a0.toInt ≤ 7) (h1a : 0 ≤ a1.toInt ∧ a1.toInt ≤ 9) : CALL d_X9_laySlips [.inr (.inr (.inl 96)), .inl a0, .inl a1] h (q_X9_laySlips h a0 a1) := by
  refine (g_X9_laySlips h hI a0 a1 h0a h1a).mono (fun r h' p => ?_)
  obtain ⟨a, b, c, e⟩ := p
  exact ⟨a, (FR.rf _ h).trans b (by decide), ⟨by omega, trivial⟩, e⟩
