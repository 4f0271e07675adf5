abbrev qg_J13_bitCount_95d88 (h : PH) (a0 : Int64) : Option PV → PH → Prop := fun r h' => h = h' ∧ ∃ z : Int32, r = some (.inl z) ∧ (((0 ≤ z.toInt ∧ z.toInt ≤ 127)) ∧ (0 ≤ a0.toInt ∧ a0.toInt < 1152921504606846976 → z.toInt ≤ 60) ∧ True)
set_option maxHeartbeats 4000000 in
set_option maxRecDepth 100000 in
theorem g_J13_bitCount_95d88 (h : PH) (hI : INV h) (a0 : Int64) : CALL d_J13_bitCount_95d88 [.inr (.inl a0)] h (qg_J13_bitCount_95d88 h a0) := by
  show RUN d_J13_bitCount_95d88 0 [(0, .inr (.inl a0))] [] h _
  refine R_lload_n (k := 0) rfl rfl rfl ?_
  refine R_lload_n (k := 0) rfl rfl rfl ?_
  refine R_iconst 1 rfl rfl ?_
  refine R_lushr rfl ?_
  refine N_eqL (fun w1 e2 => ?_)
  refine R_ldc2 (x := 6148914691236517205) rfl kt_11_314 ?_
  refine R_land rfl ?_
  refine N_eqL (fun w3 e4 => ?_)
  refine R_lsub rfl ?_
  refine N_eqL (fun w5 e6 => ?_)
  refine R_lstore_n (k := 0) rfl [(0, .inr (.inl w5))] rfl rfl (by decide) ?_
  refine R_lload_n (k := 0) rfl rfl rfl ?_
  refine R_ldc2 (x := 3689348814741910323) rfl kt_11_316 ?_
  refine R_land rfl ?_
  refine N_eqL (fun w7 e8 => ?_)
  refine R_lload_n (k := 0) rfl rfl rfl ?_
  refine R_iconst 2 rfl rfl ?_
  refine R_lushr rfl ?_
  refine N_eqL (fun w9 e10 => ?_)
  refine R_ldc2 (x := 3689348814741910323) rfl kt_11_316 ?_
  refine R_land rfl ?_
  refine N_eqL (fun w11 e12 => ?_)
  refine R_ladd rfl ?_
  refine N_eqL (fun w13 e14 => ?_)
  refine R_lstore_n (k := 0) rfl [(0, .inr (.inl w13))] rfl rfl (by decide) ?_
  refine R_lload_n (k := 0) rfl rfl rfl ?_
  refine R_lload_n (k := 0) rfl rfl rfl ?_
  refine R_iconst 4 rfl rfl ?_
  refine R_lushr rfl ?_
  refine N_eqL (fun w15 e16 => ?_)
  refine R_ladd rfl ?_
  refine N_eqL (fun w17 e18 => ?_)
  refine R_ldc2 (x := 1085102592571150095) rfl kt_11_318 ?_
  refine R_land rfl ?_
  refine N_eqL (fun w19 e20 => ?_)
  refine R_lstore_n (k := 0) rfl [(0, .inr (.inl w19))] rfl rfl (by decide) ?_
  refine R_lload_n (k := 0) rfl rfl rfl ?_
  refine R_lload_n (k := 0) rfl rfl rfl ?_
  refine R_bipush 8 rfl rfl ?_
  refine R_lushr rfl ?_
  refine N_eqL (fun w21 e22 => ?_)
  refine R_ladd rfl ?_
  refine N_eqL (fun w23 e24 => ?_)
  refine R_lstore_n (k := 0) rfl [(0, .inr (.inl w23))] rfl rfl (by decide) ?_
  refine R_lload_n (k := 0) rfl rfl rfl ?_
  refine R_lload_n (k := 0) rfl rfl rfl ?_
  refine R_bipush 16 rfl rfl ?_
  refine R_lushr rfl ?_
  refine N_eqL (fun w25 e26 => ?_)
  refine R_ladd rfl ?_
  refine N_eqL (fun w27 e28 => ?_)
  refine R_lstore_n (k := 0) rfl [(0, .inr (.inl w27))] rfl rfl (by decide) ?_
  refine R_lload_n (k := 0) rfl rfl rfl ?_
  refine R_lload_n (k := 0) rfl rfl rfl ?_
  refine R_bipush 32 rfl rfl ?_
  refine R_lushr rfl ?_
  refine N_eqL (fun w29 e30 => ?_)
  refine R_ladd rfl ?_
  refine N_eqL (fun w31 e32 => ?_)
  refine R_lstore_n (k := 0) rfl [(0, .inr (.inl w31))] rfl rfl (by decide) ?_
  refine R_lload_n (k := 0) rfl rfl rfl ?_
  refine R_l2i rfl ?_
  refine N_eq (fun x33 e34 => ?_)
  refine R_bipush 127 rfl rfl ?_
  refine R_iand rfl ?_
  refine N_eq (fun x35 e36 => ?_)
  have q37 : 0 ≤ x35.toInt ∧ x35.toInt ≤ 127 := by rw [e36]; exact i_and (by decide) (by omega)
  exact R_iret rfl rfl rfl ⟨rfl, _, rfl, ⟨by omega, (fun hc => by rw [e36, e34]; exact bc60 (by decide) (by decide) (by decide) (by decide) (by decide) (by decide) e2 e4 e6 e8 e10 e12 e14 e16 e18 e20 e22 e24 e26 e28 e30 e32 hc), trivial⟩⟩
