abbrev qg_X9_see (h : PH) (a0 : Int32) : Option PV → PH → Prop := fun r h' => h = h' ∧ ∃ z : Int32, r = some (.inl z) ∧ (((z.toInt = (-1) ∧ (h.1 96 7).toInt ≤ a0.toInt + 0) ∨ (0 ≤ z.toInt ∧ z.toInt ≤ 255 ∧ 0 ≤ a0.toInt ∧ a0.toInt ≤ 499 ∧ 1 ≤ (h.1 96 7).toInt ∧ (h.1 96 7).toInt ≤ 500 ∧ a0.toInt ≤ (h.1 96 7).toInt + (-1))) ∧ (z = seeF h a0) ∧ True)
set_option maxHeartbeats 4000000 in
set_option maxRecDepth 100000 in
theorem g_X9_see (h : PH) (hI : INV h) (a0 : Int32) (h0a : 0 ≤ a0.toInt ∧ a0.toInt ≤ 500) : CALL d_X9_see [.inr (.inr (.inl 96)), .inl a0] h (qg_X9_see h a0) := by
  show RUN d_X9_see 0 [(0, .inr (.inr (.inl 96))), (1, .inl a0)] [] h _
  refine R_iload_n (k := 1) rfl rfl rfl ?_
  refine R_aload_n (k := 0) rfl rfl rfl ?_
  refine R_getf_i (j := 7) rfl ft_9_139 sh_96 rfl ?_
  have b1 : (0 : Int) ≤ (h.1 96 7).toInt ∧ (h.1 96 7).toInt ≤ 500 := hI.1 96 7
  refine N_icmp_ge (a := a0.toInt) (b := (h.1 96 7).toInt) 21 rfl rfl rfl rfl (fun c2 => ?_) (fun c2 => ?_)
  · refine R_iconst (-1) rfl rfl ?_
    have k3 : ((-1) : Int32).toInt = (-1) := by decide
    exact R_iret rfl rfl rfl ⟨rfl, _, rfl, ⟨by rw [show ((-1) : Int32).toInt = (-1) from rfl] <;> omega, (by unfold seeF; rw [if_neg (by omega)]), trivial⟩⟩
  · refine R_aload_n (k := 0) rfl rfl rfl ?_
    refine R_getf_r (j := 4) rfl ft_9_20 sh_96 rfl ?_
    refine R_iload_n (k := 1) rfl rfl rfl ?_
    refine R_bald rfl sh_100 ⟨by omega, by omega⟩ ?_
    refine N_eq (fun x4 e5 => ?_)
    refine R_sipush 255 rfl rfl ?_
    refine R_iand rfl ?_
    refine N_eq (fun x6 e7 => ?_)
    have q8 : 0 ≤ x6.toInt ∧ x6.toInt ≤ 255 := by rw [e7]; exact i_and (by decide) (by omega)
    refine R_goto 22 rfl rfl ?_
    exact R_iret rfl rfl rfl ⟨rfl, _, rfl, ⟨by omega, (by unfold seeF; rw [if_pos (by omega), e7, e5]), trivial⟩⟩
