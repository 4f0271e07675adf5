abbrev qg_X9_isAlike (h : PH)  : Option PV → PH → Prop := fun r h' => h = h' ∧ ∃ z : Int32, r = some (.inl z) ∧ (((z.toInt = 1) ∨ (z.toInt = 0)) ∧ (z.toInt = 1 → ∀ j : Nat, j < 29 → h.1 121 j = h.1 122 j) ∧ (z.toInt = 0 → ∃ j : Nat, j < 29 ∧ ¬ h.1 121 j = h.1 122 j) ∧ True)
set_option maxHeartbeats 4000000 in
set_option maxRecDepth 100000 in
theorem g_X9_isAlike (h : PH) (hI : INV h)  : CALL d_X9_isAlike [.inr (.inr (.inl 121)), .inr (.inr (.inl 122))] h (qg_X9_isAlike h) := by
  show RUN d_X9_isAlike 0 [(0, .inr (.inr (.inl 121))), (1, .inr (.inr (.inl 122)))] [] h _
  refine R_iconst 0 rfl rfl ?_
  refine R_istore_n (k := 2) rfl [(2, .inl 0), (0, .inr (.inr (.inl 121))), (1, .inr (.inr (.inl 122)))] rfl rfl (by decide) ?_
  have lp2 : ∀ (n1 : Nat) (x3 : Int32), 0 ≤ x3.toInt ∧ x3.toInt ≤ 29 → (∀ j : Nat, (j : Int) < x3.toInt → h.1 121 j = h.1 122 j) → (29 - x3.toInt).toNat < n1 → RUN d_X9_isAlike 2 [(2, .inl x3), (0, .inr (.inr (.inl 121))), (1, .inr (.inr (.inl 122)))] [] h (qg_X9_isAlike h) := by
    intro n1
    induction n1 with
    | zero => intro x3 m5 m6 hz; exact absurd hz (Nat.not_lt_zero _)
    | succ n1 ih4 =>
      intro x3 m5 m6 hz
      refine R_iload_n (k := 2) rfl rfl rfl ?_
      refine R_bipush 29 rfl rfl ?_
      refine N_icmp_ge (a := x3.toInt) (b := 29) 25 rfl rfl rfl (by decide) (fun c7 => ?_) (fun c7 => ?_)
      · refine R_iconst 1 rfl rfl ?_
        have k8 : (1 : Int32).toInt = 1 := by decide
        exact R_iret rfl rfl rfl ⟨rfl, _, rfl, ⟨by rw [show (1 : Int32).toInt = 1 from rfl] <;> omega, (fun _ j hj => m6 j (by omega)), (fun hc => absurd hc (by decide)), trivial⟩⟩
      · refine R_aload_n (k := 0) rfl rfl rfl ?_
        refine R_iload_n (k := 2) rfl rfl rfl ?_
        refine R_iald rfl sh_121 ⟨by omega, by omega⟩ ?_
        refine N_eq (fun x9 e10 => ?_)
        refine R_aload_n (k := 1) rfl rfl rfl ?_
        refine R_iload_n (k := 2) rfl rfl rfl ?_
        refine R_iald rfl sh_122 ⟨by omega, by omega⟩ ?_
        refine N_eq (fun x11 e12 => ?_)
        refine N_icmp_eq (a := x9.toInt) (b := x11.toInt) 19 rfl rfl rfl rfl (fun c13 => ?_) (fun c13 => ?_)
        · refine N_iinc (a := x3.toInt) (c := 1) (fun w => [(2, .inl w), (0, .inr (.inr (.inl 121))), (1, .inr (.inr (.inl 122)))]) rfl rfl (fun _ => rfl) (by decide) rfl (by decide) (by omega) (fun x14 q15 => ?_)
          refine R_goto 2 rfl rfl ?_
          exact RUN_weak (psub_cons rfl (psub_cons rfl (psub_cons rfl (psub_nil _)))) (ih4 x14 (by omega) (al_step (x := x3) (x' := x14) m6 (by rw [← e10, ← e12]; exact Int32.toInt_inj.mp (by omega)) (by omega) (by omega)) (by omega))
        · refine R_iconst 0 rfl rfl ?_
          have k16 : (0 : Int32).toInt = 0 := by decide
          exact R_iret rfl rfl rfl ⟨rfl, _, rfl, ⟨by rw [show (0 : Int32).toInt = 0 from rfl] <;> omega, (fun hc => absurd hc (by decide)), (fun _ => ⟨x3.toNatClampNeg, nlt ⟨by omega, by omega⟩, fun q => absurd (congrArg Int32.toInt (e10.trans (q.trans e12.symm))) (by omega)⟩), trivial⟩⟩
  have k17 : (0 : Int32).toInt = 0 := by decide
  exact lp2 _ (0 : Int32) (by decide) (fun j hj => absurd hj (by omega)) (Nat.lt_succ_self _)
