abbrev q_X9_nextLine (h : PH)  : Option PV → PH → Prop := fun r h' => INV h' ∧ FR [105] h h' ∧ (True) ∧ ∃ z : Int32, r = some (.inl z) ∧ ((z.toInt = 0) ∨ (z.toInt = 1 ∧ 1 ≤ (h.1 97 0).toInt ∧ (h.1 97 0).toInt ≤ 60 ∧ 2 ≤ (h.1 97 5).toInt ∧ (h.1 97 5).toInt ≤ 6))
theorem k_X9_nextLine (h : PH) (hI : INV h)  : CALL d_X9_nextLine [.inr (.inr (.inl 96))] h (q_X9_nextLine h) := by sorry
