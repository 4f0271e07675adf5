/-! small rows for the emitter -/
theorem zz_of {x : Int32} (h : x.toInt = 0 ∨ x.toInt = 1) : x = 0 ∨ x = 1 := h.elim (fun e => Or.inl (i_of 0 (e.trans rfl))) (fun e => Or.inr (i_of 1 (e.trans rfl)))
theorem nar_z {x : Int32} (h : x.toInt = 0 ∨ x.toInt = 1) : narrow .boolean (.int x) = .int x := by
  rcases zz_of h with rfl | rfl <;> rfl
theorem wI_at {h : PH} {k j i : Nat} {x : Int32} (hj : i ≠ j) : (wI h k j x).1 k i = h.1 k i := by rw [wI_self]; exact if_neg hj
theorem wI_is {h : PH} {k j : Nat} {x : Int32} : (wI h k j x).1 k j = x := by rw [wI_self]; exact if_pos rfl
theorem wL_fst (h : PH) (k j : Nat) (x : Int64) : (wL h k j x).1 = h.1 := rfl
theorem act_at {h : PH} (hI : INV h) {i : Int32} {b : Int} (hi : i.toInt = b + 38) (hb : 0 ≤ b ∧ b < (h.1 97 9).toInt) : (100 ≤ (h.1 97 i.toNatClampNeg).toInt ∧ (h.1 97 i.toNatClampNeg).toInt ≤ 699 ∧ 1 ≤ (h.1 97 i.toNatClampNeg).toInt % 100 ∧ (h.1 97 i.toNatClampNeg).toInt % 100 ≤ 6) ∨ (10000 ≤ (h.1 97 i.toNatClampNeg).toInt ∧ (h.1 97 i.toNatClampNeg).toInt ≤ 69999) := by
  have e := hI.2.2.2.2.2.1.1 b.toNat (by show ((b.toNat : Nat) : Int) < (h.1 97 9).toInt; omega)
  have e2 : i.toNatClampNeg = 0 + 38 + b.toNat := by
    have := pcl (x := i) (by omega)
    omega
  rw [e2]
  exact e
theorem N_bd2 {d : PMd} {pc : Nat} {L : PL} {st : List PV} {h : PH} {Q : Option PV → PH → Prop} {x : Int32} (hb : ((100 ≤ x.toInt ∧ x.toInt ≤ 699 ∧ 1 ≤ x.toInt % 100 ∧ x.toInt % 100 ≤ 6) ∨ (10000 ≤ x.toInt ∧ x.toInt ≤ 69999))) (k : ∀ z : Int32, ((100 ≤ z.toInt ∧ z.toInt ≤ 699 ∧ 1 ≤ z.toInt % 100 ∧ z.toInt % 100 ≤ 6) ∨ (10000 ≤ z.toInt ∧ z.toInt ≤ 69999)) → RUN d pc L (.inl z :: st) h Q) : RUN d pc L (.inl x :: st) h Q := k x hb
section
variable {d : PMd} {pc : Nat} {L : PL} {st : List PV} {h : PH} {Q : Option PV → PH → Prop} {x y : Int32} {a b : Int}
theorem i_shl1 : ∀ n : Nat, n ≤ 7 → ((1 : Int32) <<< (nI n &&& 31)).toInt = 2 ^ n ∧ ((2 : Int32) <<< (nI n &&& 31)).toInt = 2 * 2 ^ n := by decide
theorem sh_nat {y : Int32} (h : 0 ≤ y.toInt ∧ y.toInt ≤ 7) : ∃ n : Nat, n ≤ 7 ∧ y = nI n ∧ y.toInt = n := by
  obtain ⟨j, hj, e⟩ := nI_of (x := y) (fun z => absurd (Int32.lt_iff_toInt_lt.mp z) (by rw [show (0 : Int32).toInt = 0 from rfl]; omega))
  have e2 : y.toInt = j := by rw [e]; exact nI_toInt hj
  exact ⟨j, by omega, e, e2⟩
theorem pow_bd : ∀ n : Nat, n ≤ 7 → 1 ≤ (2 : Int) ^ n ∧ (2 : Int) ^ n ≤ 128 ∧ (n ≤ 6 → (2 : Int) ^ n ≤ 64) ∧ (n ≤ 5 → (2 : Int) ^ n ≤ 32) := by decide
theorem N_ishl1 (hi : d.2.2.2.2.2.2.2[pc]? = some (some (.ishl, 1))) (hy : y.toInt = b) (hb : 0 ≤ b ∧ b ≤ 7) (k : ∀ z : Int32, (1 ≤ z.toInt ∧ z.toInt ≤ 128 ∧ (b ≤ 6 → z.toInt ≤ 64) ∧ (b ≤ 5 → z.toInt ≤ 32)) → RUN d (pc + 1) L (.inl z :: st) h Q) : RUN d pc L (.inl y :: .inl (1 : Int32) :: st) h Q := by
  refine R_ishl hi (k _ ?_)
  obtain ⟨n, hn, e, e2⟩ := sh_nat (y := y) (by omega)
  have := pow_bd n hn
  rw [e, (i_shl1 n hn).1]
  omega
theorem N_ishl2 (hi : d.2.2.2.2.2.2.2[pc]? = some (some (.ishl, 1))) (hy : y.toInt = b) (hb : 0 ≤ b ∧ b ≤ 7) (k : ∀ z : Int32, (2 ≤ z.toInt ∧ z.toInt ≤ 256) → RUN d (pc + 1) L (.inl z :: st) h Q) : RUN d pc L (.inl y :: .inl (2 : Int32) :: st) h Q := by
  refine R_ishl hi (k _ ?_)
  obtain ⟨n, hn, e, e2⟩ := sh_nat (y := y) (by omega)
  have := pow_bd n hn
  rw [e, (i_shl1 n hn).2]
  omega
theorem N_max {idx n : Nat} (hi : d.2.2.2.2.2.2.2[pc]? = some (some (.invokestatic idx, 3))) (hm : mtab d.1 idx = some (3, 0, n)) (hx : x.toInt = a) (hy : y.toInt = b) (hr : (pBn 0).1 ≤ d.2.2.2.2.2.1 ∧ (pBn 0).2.1 ≤ d.2.2.2.2.2.2.1 ∧ (st.map pc2).sum ≤ 8) (k : ∀ z : Int32, (a < b ∧ z.toInt = b) ∨ (b ≤ a ∧ z.toInt = a) → RUN d (pc + 3) L (.inl z :: st) h Q) : RUN d pc L (.inl y :: .inl x :: st) h Q := by
  refine R_nat (b := 0) (st' := .inl (if x < y then y else x) :: st) (h' := h) hi hm rfl hr (k _ ?_)
  split
  · rename_i c
    exact Or.inl ⟨i_lt a b hx hy c, hy⟩
  · rename_i c
    exact Or.inr ⟨i_nlt a b hx hy c, hx⟩
theorem N_min {idx n : Nat} (hi : d.2.2.2.2.2.2.2[pc]? = some (some (.invokestatic idx, 3))) (hm : mtab d.1 idx = some (3, 1, n)) (hx : x.toInt = a) (hy : y.toInt = b) (hr : (pBn 1).1 ≤ d.2.2.2.2.2.1 ∧ (pBn 1).2.1 ≤ d.2.2.2.2.2.2.1 ∧ (st.map pc2).sum ≤ 8) (k : ∀ z : Int32, (b < a ∧ z.toInt = b) ∨ (a ≤ b ∧ z.toInt = a) → RUN d (pc + 3) L (.inl z :: st) h Q) : RUN d pc L (.inl y :: .inl x :: st) h Q := by
  refine R_nat (b := 1) (st' := .inl (if y < x then y else x) :: st) (h' := h) hi hm rfl hr (k _ ?_)
  split
  · rename_i c
    exact Or.inl ⟨i_lt b a hy hx c, hy⟩
  · rename_i c
    exact Or.inr ⟨i_nlt b a hy hx c, hx⟩
end
