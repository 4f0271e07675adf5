/-! factorial -/
def FI (v k : Int) : Prop := (k = 2 ∧ v = 1) ∨ (k = 3 ∧ v = 2) ∨ (k = 4 ∧ v = 6) ∨ (k = 5 ∧ v = 24) ∨ (k = 6 ∧ v = 120) ∨ (k = 7 ∧ v = 720)
theorem facm {v k : Int32} {k' : Int} (h : FI v.toInt k.toInt) (hk : k.toInt ≤ 6) (hk' : k' = k.toInt + 1) : FI (v * k).toInt k' := by
  have e : (v * k).toInt = v.toInt * k.toInt := by
    refine i_mul rfl rfl ?_
    rcases h with ⟨a, b⟩ | ⟨a, b⟩ | ⟨a, b⟩ | ⟨a, b⟩ | ⟨a, b⟩ | ⟨a, b⟩ <;> rw [a, b] <;> decide
  rw [e, hk']
  unfold FI
  rcases h with ⟨a, b⟩ | ⟨a, b⟩ | ⟨a, b⟩ | ⟨a, b⟩ | ⟨a, b⟩ | ⟨a, b⟩
  all_goals first | (exfalso; omega) | (rw [a, b]; decide)
abbrev qg_X9_factorial (h : PH) (a0 : Int32) : Option PV → PH → Prop := fun r h' => h = h' ∧ ∃ z : Int32, r = some (.inl z) ∧ ((1 ≤ z.toInt ∧ z.toInt ≤ 720))
theorem g_X9_factorial (h : PH) (hI : INV h) (a0 : Int32) (h0a : (-6) ≤ a0.toInt ∧ a0.toInt ≤ 6) : CALL d_X9_factorial [.inl a0] h (qg_X9_factorial h a0) := by
  show RUN d_X9_factorial 0 [(0, .inl a0)] [] h _
  refine R_iconst 1 rfl rfl ?_
  refine R_istore_n (k := 1) rfl [(1, .inl 1), (0, .inl a0)] rfl rfl (by decide) ?_
  refine R_iconst 2 rfl rfl ?_
  refine R_istore_n (k := 2) rfl [(2, .inl 2), (1, .inl 1), (0, .inl a0)] rfl rfl (by decide) ?_
  have lp : ∀ (n : Nat) (v k : Int32), FI v.toInt k.toInt → (8 - k.toInt).toNat < n → RUN d_X9_factorial 4 [(2, .inl k), (1, .inl v), (0, .inl a0)] [] h (qg_X9_factorial h a0) := by
    intro n
    induction n with
    | zero => intro v k m hz; exact absurd hz (Nat.not_lt_zero _)
    | succ n ih =>
      intro v k m hz
      have mb : 2 ≤ k.toInt ∧ k.toInt ≤ 7 ∧ 1 ≤ v.toInt ∧ v.toInt ≤ 720 := by unfold FI at m; omega
      refine R_iload_n (k := 2) rfl rfl rfl ?_
      refine R_iload_n (k := 0) rfl rfl rfl ?_
      refine N_icmp_gt (a := k.toInt) (b := a0.toInt) 19 rfl rfl rfl rfl (fun c4 => ?_) (fun c4 => ?_)
      · refine R_iload_n (k := 1) rfl rfl rfl ?_
        exact R_iret rfl rfl rfl ⟨rfl, _, rfl, by omega⟩
      · refine R_iload_n (k := 1) rfl rfl rfl ?_
        refine R_iload_n (k := 2) rfl rfl rfl ?_
        refine R_imul rfl ?_
        refine R_istore_n (k := 1) rfl [(1, .inl (v * k)), (2, .inl k), (0, .inl a0)] rfl rfl (by decide) ?_
        refine N_iinc (a := k.toInt) (c := 1) (fun w => [(2, .inl w), (1, .inl (v * k)), (0, .inl a0)]) rfl rfl (fun _ => rfl) (by decide) rfl (by decide) (by omega) (fun x6 q7 => ?_)
        refine R_goto 4 rfl rfl ?_
        exact ih (v * k) x6 (facm m (by omega) q7) (by omega)
  exact lp _ 1 2 (Or.inl (by decide)) (Nat.lt_succ_self _)
