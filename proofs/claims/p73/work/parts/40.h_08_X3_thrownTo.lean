abbrev q_X3_thrownTo (h : PH) (a0 : Int64) (a1 : Int64) : Option PV → PH → Prop := fun r h' => h = h' ∧ ∃ z : Int32, r = some (.inl z) ∧ ((0 ≤ z.toInt ∧ z.toInt ≤ 127))
theorem k_X3_thrownTo (h : PH) (hI : INV h) (a0 : Int64) (a1 : Int64) : CALL d_X3_thrownTo [.inr (.inl a0), .inr (.inl a1)] h (q_X3_thrownTo h a0 a1) := by sorry
