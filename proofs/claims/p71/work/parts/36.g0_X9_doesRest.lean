abbrev qg_X9_doesRest (h : PH) (a0 : Int32) (a1 : Int32) : Option PV → PH → Prop := fun r h' => h = h' ∧ ∃ z : Int32, r = some (.inl z) ∧ (((z.toInt = 0 ∧ 60 ≤ a1.toInt) ∨ (z.toInt = 0 ∧ 0 ≤ a1.toInt ∧ a1.toInt ≤ 59) ∨ (z.toInt = 1 ∧ 0 ≤ a1.toInt ∧ a1.toInt ≤ 59)) ∧ (z.toInt = zRest (evOf h) a0 a1) ∧ True)
set_option maxHeartbeats 4000000 in
set_option maxRecDepth 100000 in
theorem g_X9_doesRest (h : PH) (hI : INV h) (a0 : Int32) (a1 : Int32) (h0a : 0 ≤ a0.toInt ∧ a0.toInt ≤ 5) (h1a : 0 ≤ a1.toInt ∧ a1.toInt ≤ 2147483647) : CALL d_X9_doesRest [.inr (.inr (.inl 96)), .inl a0, .inl a1] h (qg_X9_doesRest h a0 a1) := by
  show RUN d_X9_doesRest 0 [(0, .inr (.inr (.inl 96))), (1, .inl a0), (2, .inl a1)] [] h _
  have hK : kyOf h = kyOf h := rfl
  have hE : evOf h = evOf h := rfl
  refine R_iload_n (k := 2) rfl rfl rfl ?_
  refine R_bipush 60 rfl rfl ?_
  refine N_icmp_ge (a := a1.toInt) (b := 60) 24 rfl rfl rfl (by decide) (fun c1 => ?_) (fun c1 => ?_)
  · refine R_iconst 0 rfl rfl ?_
    have k2 : (0 : Int32).toInt = 0 := by decide
    exact R_iret rfl rfl rfl ⟨rfl, _, rfl, ⟨by rw [show (0 : Int32).toInt = 0 from rfl] <;> omega, (by simp only [zRest, eRest]; rw [show (0 : Int32).toInt = 0 from rfl]; (repeat' split) <;> first | (exfalso; omega) | rfl), trivial⟩⟩
  · refine R_aload_n (k := 0) rfl rfl rfl ?_
    refine R_getf_r (j := 16) rfl ft_9_37 sh_96 rfl ?_
    refine R_bipush 6 rfl rfl ?_
    refine R_iload_n (k := 2) rfl rfl rfl ?_
    refine R_imul rfl ?_
    refine N_eq (fun x3 e4 => ?_)
    have q5 : x3.toInt = 6 * a1.toInt := by rw [e4]; exact i_mul (by decide) rfl (by omega)
    refine R_iload_n (k := 1) rfl rfl rfl ?_
    refine R_iadd rfl ?_
    refine N_eq (fun x6 e7 => ?_)
    have q8 : x6.toInt = x3.toInt + a0.toInt := by rw [e7]; exact i_add rfl rfl (by omega)
    refine R_zald rfl sh_104 ⟨by omega, by omega⟩ ?_
    refine N_eq (fun x9 e10 => ?_)
    have e11 : x9 = (evOf h).2.2.1 x6.toNatClampNeg := by rw [e10]; exact congrFun (congrArg (fun q : EV => q.2.2.1) hE) _
    refine N_if_eq (a := x9.toInt) 24 rfl rfl rfl (fun c12 => ?_) (fun c12 => ?_)
    · refine R_iconst 0 rfl rfl ?_
      have k13 : (0 : Int32).toInt = 0 := by decide
      exact R_iret rfl rfl rfl ⟨rfl, _, rfl, ⟨by rw [show (0 : Int32).toInt = 0 from rfl] <;> omega, (by subst e11 e7 e4; simp only [zRest, eRest]; rw [show (0 : Int32).toInt = 0 from rfl]; (repeat' split) <;> first | (exfalso; omega) | rfl), trivial⟩⟩
    · refine R_iconst 1 rfl rfl ?_
      refine R_goto 25 rfl rfl ?_
      have k14 : (1 : Int32).toInt = 1 := by decide
      exact R_iret rfl rfl rfl ⟨rfl, _, rfl, ⟨by rw [show (1 : Int32).toInt = 1 from rfl] <;> omega, (by subst e11 e7 e4; simp only [zRest, eRest]; rw [show (1 : Int32).toInt = 1 from rfl]; (repeat' split) <;> first | (exfalso; omega) | rfl), trivial⟩⟩
