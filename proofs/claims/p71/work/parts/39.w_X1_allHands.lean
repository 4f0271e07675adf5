abbrev qg_X1_allHands (h : PH)  : Option PV → PH → Prop := fun r h' => h = h' ∧ ∃ z : Int32, r = some (.inl z) ∧ (((True)) ∧ (z = (1 <<< (h.1 17 5 &&& 31)) - 1) ∧ True)
set_option maxHeartbeats 4000000 in
set_option maxRecDepth 100000 in
theorem g_X1_allHands (h : PH) (hI : INV h)  : CALL d_X1_allHands [.inr (.inr (.inl 16))] h (qg_X1_allHands h) := by
  show RUN d_X1_allHands 0 [(0, .inr (.inr (.inl 16)))] [] h _
  refine R_iconst 1 rfl rfl ?_
  refine R_aload_n (k := 0) rfl rfl rfl ?_
  refine R_getf_r (j := 0) rfl ft_1_9 sh_16 rfl ?_
  refine R_iconst 5 rfl rfl ?_
  refine R_iald rfl sh_17 (by decide) ?_
  have b1 : (0 : Int) ≤ (h.1 17 5).toInt ∧ (h.1 17 5).toInt ≤ 6 := hI.1 17 5
  show RUN d_X1_allHands 7 [(0, .inr (.inr (.inl 16)))] [.inl (h.1 17 5), .inl 1] h _
  refine R_ishl rfl ?_
  refine N_eq (fun x2 e3 => ?_)
  refine R_iconst 1 rfl rfl ?_
  have b5 := i_rng x2
  refine R_isub rfl ?_
  refine N_eq (fun x6 e7 => ?_)
  exact R_iret rfl rfl rfl ⟨rfl, _, rfl, ⟨trivial, (by subst e7 e3; rfl), trivial⟩⟩
