abbrev q_X9_image (h : PH) (a0 : Int32) : Option PV → PH → Prop := fun r h' => INV h' ∧ FR [] h h' ∧ (True) ∧ ∃ z : Int32, r = some (.inl z) ∧ ((True))
theorem k_X9_image (h : PH) (hI : INV h) (a0 : Int32) : CALL d_X9_image [.inr (.inr (.inl 96)), .inl a0] h (q_X9_image h a0) := by sorry
