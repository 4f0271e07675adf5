abbrev qg_X9_bits (h : PH) (a0 : Int32) : Option PV → PH → Prop := fun r h' => h = h' ∧ ∃ z : Int32, r = some (.inl z) ∧ ((0 ≤ z.toInt ∧ z.toInt ≤ 6))
set_option maxHeartbeats 4000000 in
set_option maxRecDepth 100000 in
theorem g_X9_bits (h : PH) (hI : INV h) (a0 : Int32) : CALL d_X9_bits [.inl a0] h (qg_X9_bits h a0) := by
  show RUN d_X9_bits 0 [(0, .inl a0)] [] h _
  have b1 := i_rng a0
  refine R_iconst 0 rfl rfl ?_
  refine R_istore_n (k := 1) rfl [(1, .inl 0), (0, .inl a0)] rfl rfl (by decide) ?_
  refine R_iconst 0 rfl rfl ?_
  refine R_istore_n (k := 2) rfl [(2, .inl 0), (1, .inl 0), (0, .inl a0)] rfl rfl (by decide) ?_
  have lp3 : ∀ (n2 : Nat) (x4 : Int32) (x5 : Int32), 0 ≤ x4.toInt ∧ x4.toInt ≤ 6 → 0 ≤ x5.toInt ∧ x5.toInt ≤ 6 → x4.toInt ≤ x5.toInt + 0 → (6 - x5.toInt).toNat < n2 → RUN d_X9_bits 4 [(2, .inl x5), (1, .inl x4), (0, .inl a0)] [] h (qg_X9_bits h a0) := by
    intro n2
    induction n2 with
    | zero => intro x4 x5 m7 m8 m9 hz; exact absurd hz (Nat.not_lt_zero _)
    | succ n2 ih6 =>
      intro x4 x5 m7 m8 m9 hz
      refine R_iload_n (k := 2) rfl rfl rfl ?_
      refine R_bipush 6 rfl rfl ?_
      refine N_icmp_ge (a := x5.toInt) (b := 6) 24 rfl rfl rfl (by decide) (fun c10 => ?_) (fun c10 => ?_)
      · refine R_iload_n (k := 1) rfl rfl rfl ?_
        exact R_iret rfl rfl rfl ⟨rfl, _, rfl, by omega⟩
      · refine R_iload_n (k := 1) rfl rfl rfl ?_
        refine R_iload_n (k := 0) rfl rfl rfl ?_
        refine R_iload_n (k := 2) rfl rfl rfl ?_
        refine R_ishr rfl ?_
        refine N_any (fun x11 => ?_)
        refine R_iconst 1 rfl rfl ?_
        refine N_iand (b := 1) rfl (by decide) (by omega) (fun x12 q13 => ?_)
        refine N_iadd (a := x4.toInt) (b := x12.toInt) rfl rfl rfl (by omega) (fun x14 q15 => ?_)
        refine R_istore_n (k := 1) rfl [(1, .inl x14), (2, .inl x5), (0, .inl a0)] rfl rfl (by decide) ?_
        refine N_iinc (a := x5.toInt) (c := 1) (fun w => [(2, .inl w), (1, .inl x14), (0, .inl a0)]) rfl rfl (fun _ => rfl) (by decide) rfl (by decide) (by omega) (fun x16 q17 => ?_)
        refine R_goto 4 rfl rfl ?_
        exact RUN_weak (psub_cons rfl (psub_cons rfl (psub_cons rfl (psub_nil _)))) (ih6 x14 x16 (by omega) (by omega) (by omega) (by omega))
  have k18 : (0 : Int32).toInt = 0 := by decide
  have k19 : (0 : Int32).toInt = 0 := by decide
  exact lp3 _ (0 : Int32) (0 : Int32) (by decide) (by decide) (by omega) (Nat.lt_succ_self _)
