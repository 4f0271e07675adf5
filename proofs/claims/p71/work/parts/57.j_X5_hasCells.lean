abbrev qg_X5_hasCells (h : PH) (a0 : Int32) (a1 : Int32) (a2 : Int32) : Option PV → PH → Prop := fun r h' => h = h' ∧ ∃ z : Int32, r = some (.inl z) ∧ (((z.toInt = 0 ∧ a1.toInt ≤ (-1)) ∨ (z.toInt = 0 ∧ 0 ≤ a1.toInt ∧ a2.toInt ≤ (-1)) ∨ (z.toInt = 0 ∧ 0 ≤ a1.toInt ∧ 0 ≤ a2.toInt) ∨ (z.toInt = 1 ∧ 0 ≤ a1.toInt ∧ a1.toInt ≤ 60 ∧ 0 ≤ a2.toInt ∧ a1.toInt + a2.toInt ≤ 60)) ∧ (z.toInt = 1 → (0 ≤ a1.toInt ∧ 0 ≤ a2.toInt ∧ a1.toInt + a2.toInt ≤ (h.1 68 a0.toNatClampNeg).toInt)) ∧ (z.toInt = 0 → ¬ (0 ≤ a1.toInt ∧ 0 ≤ a2.toInt ∧ a1.toInt + a2.toInt ≤ (h.1 68 a0.toNatClampNeg).toInt)) ∧ True)
set_option maxHeartbeats 4000000 in
set_option maxRecDepth 100000 in
theorem g_X5_hasCells (h : PH) (hI : INV h) (a0 : Int32) (a1 : Int32) (a2 : Int32) (h0a : 0 ≤ a0.toInt ∧ a0.toInt ≤ 3) : CALL d_X5_hasCells [.inr (.inr (.inl 66)), .inl a0, .inl a1, .inl a2] h (qg_X5_hasCells h a0 a1 a2) := by
  show RUN d_X5_hasCells 0 [(0, .inr (.inr (.inl 66))), (1, .inl a0), (2, .inl a1), (3, .inl a2)] [] h _
  have b1 := i_rng a1
  have b2 := i_rng a2
  refine R_iload_n (k := 2) rfl rfl rfl ?_
  refine N_if_lt (a := a1.toInt) 24 rfl rfl rfl (fun c3 => ?_) (fun c3 => ?_)
  · refine R_iconst 0 rfl rfl ?_
    have k4 : (0 : Int32).toInt = 0 := by decide
    exact R_iret rfl rfl rfl ⟨rfl, _, rfl, ⟨by rw [show (0 : Int32).toInt = 0 from rfl] <;> omega, (fun hc => absurd hc (by decide)), (fun _ => by omega), trivial⟩⟩
  · refine R_iload_n (k := 3) rfl rfl rfl ?_
    refine N_if_lt (a := a2.toInt) 24 rfl rfl rfl (fun c5 => ?_) (fun c5 => ?_)
    · refine R_iconst 0 rfl rfl ?_
      have k6 : (0 : Int32).toInt = 0 := by decide
      exact R_iret rfl rfl rfl ⟨rfl, _, rfl, ⟨by rw [show (0 : Int32).toInt = 0 from rfl] <;> omega, (fun hc => absurd hc (by decide)), (fun _ => by omega), trivial⟩⟩
    · refine R_iload_n (k := 2) rfl rfl rfl ?_
      refine R_aload_n (k := 0) rfl rfl rfl ?_
      refine R_getf_r (j := 1) rfl ft_5_15 sh_66 rfl ?_
      refine R_iload_n (k := 1) rfl rfl rfl ?_
      refine R_iald rfl sh_68 ⟨by omega, by omega⟩ ?_
      refine N_eq (fun x7 e8 => ?_)
      have q9 : (-1) ≤ x7.toInt ∧ x7.toInt ≤ 60 := by rw [e8]; exact hI.1 68 _
      refine R_iload_n (k := 3) rfl rfl rfl ?_
      have b10 := i_rng a2
      refine R_isub rfl ?_
      refine N_eq (fun x11 e12 => ?_)
      have q13 : x11.toInt = x7.toInt - a2.toInt := by rw [e12]; exact i_sub rfl rfl (by omega)
      refine N_icmp_gt (a := a1.toInt) (b := x11.toInt) 24 rfl rfl rfl rfl (fun c14 => ?_) (fun c14 => ?_)
      · refine R_iconst 0 rfl rfl ?_
        have k15 : (0 : Int32).toInt = 0 := by decide
        exact R_iret rfl rfl rfl ⟨rfl, _, rfl, ⟨by rw [show (0 : Int32).toInt = 0 from rfl] <;> omega, (fun hc => absurd hc (by decide)), (fun _ => by rw [← e8]; omega), trivial⟩⟩
      · refine R_iconst 1 rfl rfl ?_
        refine R_goto 25 rfl rfl ?_
        have k16 : (1 : Int32).toInt = 1 := by decide
        exact R_iret rfl rfl rfl ⟨rfl, _, rfl, ⟨by rw [show (1 : Int32).toInt = 1 from rfl] <;> omega, (fun _ => by rw [← e8]; omega), (fun hc => absurd hc (by decide)), trivial⟩⟩
