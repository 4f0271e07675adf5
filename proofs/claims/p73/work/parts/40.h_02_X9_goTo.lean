abbrev q_X9_goTo (h : PH) (a0 : Int32) : Option PV → PH → Prop := fun r h' => INV h' ∧ FR [96, 107, 108, 109, 117, 118] h h' ∧ ((h'.1 96 42).toInt = (h.1 96 42).toInt ∧ True) ∧ r = none
theorem k_X9_goTo (h : PH) (hI : INV h) (a0 : Int32) : CALL d_X9_goTo [.inr (.inr (.inl 96)), .inl a0] h (q_X9_goTo h a0) := by sorry
