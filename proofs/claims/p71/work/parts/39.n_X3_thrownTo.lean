abbrev qg_X3_thrownTo (h : PH) (a0 : Int64) (a1 : Int64) : Option PV → PH → Prop := fun r h' => h = h' ∧ ∃ z : Int32, r = some (.inl z) ∧ (((0 ≤ z.toInt ∧ z.toInt ≤ 127)) ∧ (0 ≤ z.toInt) ∧ (0 ≤ a1.toInt ∧ a1.toInt ≤ 59 → z.toInt ≤ 60) ∧ True)
set_option maxHeartbeats 4000000 in
set_option maxRecDepth 100000 in
theorem g_X3_thrownTo (h : PH) (hI : INV h) (a0 : Int64) (a1 : Int64) : CALL d_X3_thrownTo [.inr (.inl a0), .inr (.inl a1)] h (qg_X3_thrownTo h a0 a1) := by
  show RUN d_X3_thrownTo 0 [(0, .inr (.inl a0)), (2, .inr (.inl a1))] [] h _
  refine R_lload_n (k := 0) rfl rfl rfl ?_
  refine R_ldc2 (x := 2) rfl kt_3_104 ?_
  refine R_lload_n (k := 2) rfl rfl rfl ?_
  refine R_l2i rfl ?_
  refine N_eq (fun x1 e2 => ?_)
  refine R_lshl rfl ?_
  refine N_eqL (fun w3 e4 => ?_)
  refine R_lconst 1 rfl rfl ?_
  refine R_lsub rfl ?_
  refine N_eqL (fun w5 e6 => ?_)
  refine R_land rfl ?_
  refine N_eqL (fun w7 e8 => ?_)
  refine R_callS (As := [.inr (.inl w7)]) (rest := []) rfl mt_3_i78 (by decide) pp_J13_bitCount_95d88 (by decide) rfl rfl (Nat.le_of_ble_eq_true rfl) (Nat.le_of_ble_eq_true rfl) ((g_J13_bitCount_95d88 h hI w7).mono (fun r9 h10 p11 => ?_))
  obtain ⟨rfl, x13, rfl, q14, zq12, -⟩ := p11
  show RUN d_X3_thrownTo 13 [(0, .inr (.inl a0)), (2, .inr (.inl a1))] [.inl x13] h _
  exact R_iret rfl rfl rfl ⟨rfl, _, rfl, ⟨by omega, by omega, (fun hc => zq12 (mask60 hc (by rw [e4, e2]) e6 e8)), trivial⟩⟩
