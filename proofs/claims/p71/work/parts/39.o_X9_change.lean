abbrev qg_X9_change (h : PH) (a0 : Int32) (a1 : Int32) : Option PV → PH → Prop := fun r h' => INV h' ∧ FR [105] h h' ∧ ((h'.1 105 = swp (h.1 105) a0.toNatClampNeg a1.toNatClampNeg) ∧ True) ∧ r = none
set_option maxHeartbeats 4000000 in
set_option maxRecDepth 100000 in
theorem g_X9_change (h : PH) (hI : INV h) (a0 : Int32) (a1 : Int32) (h0a : 0 ≤ a0.toInt ∧ a0.toInt ≤ 4) (h1a : 1 ≤ a1.toInt ∧ a1.toInt ≤ 5) : CALL d_X9_change [.inr (.inr (.inl 96)), .inl a0, .inl a1] h (qg_X9_change h a0 a1) := by
  show RUN d_X9_change 0 [(0, .inr (.inr (.inl 96))), (1, .inl a0), (2, .inl a1)] [] h _
  have fr : FR [105] h h := FR.rf _ _
  refine R_aload_n (k := 0) rfl rfl rfl ?_
  refine R_getf_r (j := 17) rfl ft_9_40 sh_96 rfl ?_
  refine R_iload_n (k := 1) rfl rfl rfl ?_
  refine R_iald rfl sh_105 ⟨by omega, by omega⟩ ?_
  refine N_eq (fun x1 e2 => ?_)
  have q3 : 0 ≤ x1.toInt ∧ x1.toInt ≤ 5 := by rw [e2]; exact hI.1 105 _
  refine R_istore_n (k := 3) rfl [(3, .inl x1), (0, .inr (.inr (.inl 96))), (1, .inl a0), (2, .inl a1)] rfl rfl (by decide) ?_
  refine R_aload_n (k := 0) rfl rfl rfl ?_
  refine R_getf_r (j := 17) rfl ft_9_40 sh_96 rfl ?_
  refine R_iload_n (k := 1) rfl rfl rfl ?_
  refine R_aload_n (k := 0) rfl rfl rfl ?_
  refine R_getf_r (j := 17) rfl ft_9_40 sh_96 rfl ?_
  refine R_iload_n (k := 2) rfl rfl rfl ?_
  refine R_iald rfl sh_105 ⟨by omega, by omega⟩ ?_
  refine N_eq (fun x4 e5 => ?_)
  have q6 : 0 ≤ x4.toInt ∧ x4.toInt ≤ 5 := by rw [e5]; exact hI.1 105 _
  refine K_iast (a := a0.toInt) (lo := 0) (hi' := 5) rfl sh_105 rfl ⟨by omega, by omega⟩ hI (by decide) rfl (by omega) fr (by decide) (fun h7 g8 hI fr => ?_)
  refine R_aload_n (k := 0) rfl rfl rfl ?_
  refine R_getf_r (j := 17) rfl ft_9_40 sh_96 rfl ?_
  refine R_iload_n (k := 2) rfl rfl rfl ?_
  refine R_iload_n (k := 3) rfl rfl rfl ?_
  refine K_iast (a := a1.toInt) (lo := 0) (hi' := 5) rfl sh_105 rfl ⟨by omega, by omega⟩ hI (by decide) rfl (by omega) fr (by decide) (fun h9 g10 hI fr => ?_)
  exact R_vret rfl rfl ⟨hI, fr, ⟨swp_row e2 e5 g8 g10, trivial⟩, rfl⟩
