abbrev q_X9_asksOrders (h : PH)  : Option PV → PH → Prop := fun r h' => INV h' ∧ FR [96, 103, 104, 105, 106, 107, 108, 109, 110, 111, 112, 113, 114, 115, 116, 117, 118, 119, 120, 123] h h' ∧ (True) ∧ ∃ z : Int32, r = some (.inl z) ∧ ((z.toInt = 0 ∧ (h.1 97 10).toInt ≤ 0) ∨ (z.toInt = 1 ∧ 1 ≤ (h.1 97 0).toInt ∧ (h.1 97 0).toInt ≤ 60 ∧ 1 ≤ (h.1 97 10).toInt))
theorem k_X9_asksOrders (h : PH) (hI : INV h)  : CALL d_X9_asksOrders [.inr (.inr (.inl 96))] h (q_X9_asksOrders h) := by
  refine (g_X9_asksOrders h hI).mono (fun r h' p => ?_)
  obtain ⟨a, b, c, d⟩ := p
  exact ⟨a, (FR.rf _ h).trans b (by decide), trivial, d⟩
