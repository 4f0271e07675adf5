abbrev qg_X5_hasRow (h : PH) (a0 : Int32) : Option PV → PH → Prop := fun r h' => h = h' ∧ ∃ z : Int32, r = some (.inl z) ∧ (((z.toInt = 0) ∨ (z.toInt = 1)) ∧ (z.toInt = 1 → ¬ (h.1 68 a0.toNatClampNeg).toInt = -1) ∧ (z.toInt = 0 → (h.1 68 a0.toNatClampNeg).toInt = -1) ∧ True)
set_option maxHeartbeats 4000000 in
set_option maxRecDepth 100000 in
theorem g_X5_hasRow (h : PH) (hI : INV h) (a0 : Int32) (h0a : 0 ≤ a0.toInt ∧ a0.toInt ≤ 3) : CALL d_X5_hasRow [.inr (.inr (.inl 66)), .inl a0] h (qg_X5_hasRow h a0) := by
  show RUN d_X5_hasRow 0 [(0, .inr (.inr (.inl 66))), (1, .inl a0)] [] h _
  refine R_aload_n (k := 0) rfl rfl rfl ?_
  refine R_getf_r (j := 1) rfl ft_5_15 sh_66 rfl ?_
  refine R_iload_n (k := 1) rfl rfl rfl ?_
  refine R_iald rfl sh_68 ⟨by omega, by omega⟩ ?_
  refine N_eq (fun x1 e2 => ?_)
  have q3 : (-1) ≤ x1.toInt ∧ x1.toInt ≤ 60 := by rw [e2]; exact hI.1 68 _
  refine R_iconst (-1) rfl rfl ?_
  refine N_icmp_eq (a := x1.toInt) (b := (-1)) 14 rfl rfl rfl (by decide) (fun c4 => ?_) (fun c4 => ?_)
  · refine R_iconst 0 rfl rfl ?_
    have k5 : (0 : Int32).toInt = 0 := by decide
    exact R_iret rfl rfl rfl ⟨rfl, _, rfl, ⟨by rw [show (0 : Int32).toInt = 0 from rfl] <;> omega, (fun hc => absurd hc (by decide)), (fun _ => by rw [← e2]; omega), trivial⟩⟩
  · refine R_iconst 1 rfl rfl ?_
    refine R_goto 15 rfl rfl ?_
    have k6 : (1 : Int32).toInt = 1 := by decide
    exact R_iret rfl rfl rfl ⟨rfl, _, rfl, ⟨by rw [show (1 : Int32).toInt = 1 from rfl] <;> omega, (fun _ => by rw [← e2]; omega), (fun hc => absurd hc (by decide)), trivial⟩⟩
