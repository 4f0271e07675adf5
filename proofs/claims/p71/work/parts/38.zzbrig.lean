set_option maxHeartbeats 4000000 in
set_option maxRecDepth 100000 in
theorem brig_copy {h h1 : PH} {x0 : Int32} (hI : INV h1) (fr : FR [96, 97, 102] h h1) (h9 : (h1.1 102 9).toInt = 0) (h0 : 1 ≤ (h1.1 102 0).toInt ∨ ((h1.1 102 10).toInt = 0 ∧ (h1.1 102 5).toInt = 0)) : RUN d_X9_brigade 84 [(1, .inl x0), (0, .inr (.inr (.inl 96)))] [] h1 (fun r h' => INV h' ∧ FR [96, 97, 102] h h' ∧ True ∧ ∃ z : Int32, r = some (.inl z) ∧ True) := by
  refine R_iconst 0 rfl rfl ?_
  refine R_istore_n (k := 1) rfl [(1, .inl 0), (0, .inr (.inr (.inl 96)))] rfl rfl (by decide) ?_
  have lp : ∀ (n : Nat) (x : Int32), 0 ≤ x.toInt ∧ x.toInt ≤ 68 → (68 - x.toInt).toNat < n → RUN d_X9_brigade 86 [(1, .inl x), (0, .inr (.inr (.inl 96)))] [] (mixI h1 97 102 0 0 x.toNatClampNeg) (fun r h' => INV h' ∧ FR [96, 97, 102] h h' ∧ True ∧ ∃ z : Int32, r = some (.inl z) ∧ True) := by
    intro n
    induction n with
    | zero => intro x m1 hz; exact absurd hz (Nat.not_lt_zero _)
    | succ n ih =>
      intro x m1 hz
      have ex := pcl (x := x) m1.1
      refine R_iload_n (k := 1) rfl rfl rfl ?_
      refine R_bipush 68 rfl rfl ?_
      refine N_icmp_ge (a := x.toInt) (b := 68) 110 rfl rfl rfl (by decide) (fun c => ?_) (fun c => ?_)
      · have e68 : x.toNatClampNeg = 68 := by omega
        rw [e68]
        have hI2 := INV_brig hI h9 h0
        have fr2 : FR [97] h1 (mixI h1 97 102 0 0 68) := FR_mix (by decide)
        have fr3 := fr.trans fr2 (by decide)
        refine R_aload_n (k := 0) rfl rfl rfl ?_
        refine R_getf_r (j := 1) rfl ft_9_9 sh_96 rfl ?_
        refine R_bipush 10 rfl rfl ?_
        refine R_iald rfl sh_97 (by decide) ?_
        refine N_any (fun x13 => ?_)
        exact R_iret rfl rfl rfl ⟨hI2, fr3, trivial, _, rfl, trivial⟩
      · refine R_aload_n (k := 0) rfl rfl rfl ?_
        refine R_getf_r (j := 1) rfl ft_9_9 sh_96 rfl ?_
        refine R_iload_n (k := 1) rfl rfl rfl ?_
        refine R_aload_n (k := 0) rfl rfl rfl ?_
        refine R_getf_r (j := 14) rfl ft_9_31 sh_96 rfl ?_
        refine R_iload_n (k := 1) rfl rfl rfl ?_
        refine R_iald rfl sh_102 ⟨by omega, by omega⟩ ?_
        refine R_iast rfl sh_97 ⟨by omega, by omega⟩ ?_
        have e5 := mixI_s (h := h1) (k := 97) (q := 102) (o := 0) (p := 0) (i := x.toNatClampNeg)
        rw [Nat.zero_add, Nat.add_zero] at e5
        rw [mixI_ne (r := 102) (by decide), e5]
        refine N_iinc (a := x.toInt) (c := 1) (fun w => [(1, .inl w), (0, .inr (.inr (.inl 96)))]) rfl rfl (fun _ => rfl) (by decide) rfl (by decide) (by omega) (fun x6 q7 => ?_)
        refine R_goto 86 rfl rfl ?_
        have e6 : x.toNatClampNeg + 1 = x6.toNatClampNeg := by
          have := pcl (x := x6) (by omega)
          omega
        have hh := ih x6 (by omega) (by omega)
        rw [← e6] at hh
        exact hh
  have h0' := lp _ 0 (by decide) (Nat.lt_succ_self _)
  rw [show (0 : Int32).toNatClampNeg = 0 from rfl, mixI_0] at h0'
  exact h0'
