theorem wL_is {h : PH} {k j : Nat} {x : Int64} : (wL h k j x).2 k j = x := by rw [wL_self]; exact if_pos rfl
theorem wL_at {h : PH} {k j i : Nat} {x : Int64} (hj : i ≠ j) : (wL h k j x).2 k i = h.2 k i := by rw [wL_self]; exact if_neg hj
theorem p8 {n : Nat} (h : n ≤ 8) : (10 : Int) ^ n ≤ 100000000 := by
  have : ∀ n, n ≤ 8 → (10 : Int) ^ n ≤ 100000000 := by decide
  exact this n h
theorem mulv {v y w : Int64} {n : Nat} (e : w = v * y) (hv : 0 ≤ v.toInt) (hv2 : v.toInt ≤ (10 : Int) ^ n) (hy : 0 ≤ y.toInt ∧ y.toInt ≤ 10) (hn : n ≤ 7) : 0 ≤ w.toInt ∧ w.toInt ≤ (10 : Int) ^ (n + 1) ∧ (0 < v.toInt → 0 < y.toInt → 0 < w.toInt) := by
  have h8 := p8 (n := n) (by omega)
  have hm : v.toInt * y.toInt ≤ (10 : Int) ^ n * 10 := Int.mul_le_mul hv2 hy.2 hy.1 (by omega)
  have h0 : 0 ≤ v.toInt * y.toInt := Int.mul_nonneg hv hy.1
  have ew : w.toInt = v.toInt * y.toInt := by rw [e]; exact l_mul rfl rfl (by omega)
  rw [ew, Int.pow_succ]
  exact ⟨h0, hm, fun a b => Int.mul_pos a b⟩
theorem shl2t {y w : Int32} (e : w = (2 : Int32) <<< (y &&& 31)) (hy : 0 ≤ y.toInt ∧ y.toInt ≤ 7) : (y.toInt = 0 ∧ w.toInt = 2) ∨ (y.toInt = 1 ∧ w.toInt = 4) ∨ (y.toInt = 2 ∧ w.toInt = 8) ∨ (y.toInt = 3 ∧ w.toInt = 16) ∨ (y.toInt = 4 ∧ w.toInt = 32) ∨ (y.toInt = 5 ∧ w.toInt = 64) ∨ (y.toInt = 6 ∧ w.toInt = 128) ∨ (y.toInt = 7 ∧ w.toInt = 256) := by
  obtain ⟨n, hn, ey, e2⟩ := sh_nat hy
  rw [e, e2, ey]
  have : ∀ n : Nat, n ≤ 7 → ((n : Int) = 0 ∧ ((2 : Int32) <<< (nI n &&& 31)).toInt = 2) ∨ ((n : Int) = 1 ∧ ((2 : Int32) <<< (nI n &&& 31)).toInt = 4) ∨ ((n : Int) = 2 ∧ ((2 : Int32) <<< (nI n &&& 31)).toInt = 8) ∨ ((n : Int) = 3 ∧ ((2 : Int32) <<< (nI n &&& 31)).toInt = 16) ∨ ((n : Int) = 4 ∧ ((2 : Int32) <<< (nI n &&& 31)).toInt = 32) ∨ ((n : Int) = 5 ∧ ((2 : Int32) <<< (nI n &&& 31)).toInt = 64) ∨ ((n : Int) = 6 ∧ ((2 : Int32) <<< (nI n &&& 31)).toInt = 128) ∨ ((n : Int) = 7 ∧ ((2 : Int32) <<< (nI n &&& 31)).toInt = 256) := by decide
  exact this n hn
theorem bit0 {x y : Int32} (hy : 0 ≤ y.toInt ∧ y.toInt ≤ 7) (hx : x.toInt = 0) : ((x >>> (y &&& 31)) &&& 1).toInt = 0 := by
  obtain ⟨n, hn, ey, -⟩ := sh_nat hy
  have ex : x = 0 := i_of 0 hx
  rw [ex, ey]
  have : ∀ n, n ≤ 7 → (((0 : Int32) >>> (nI n &&& 31)) &&& 1).toInt = 0 := by decide
  exact this n hn
theorem bit1 {x y : Int32} (hy : 0 ≤ y.toInt) {j : Nat} (hj : j ≤ 7) (hx : x.toInt = 2 ^ (j + 1) - 1) (hyj : y.toInt ≤ j) : ((x >>> (y &&& 31)) &&& 1).toInt = 1 := by
  obtain ⟨n, hn, ey, e2⟩ := sh_nat (y := y) (by omega)
  have ex : x = nI (2 ^ (j + 1) - 1) := by
    refine i_of _ ?_
    have : ∀ j, j ≤ 7 → (nI (2 ^ (j + 1) - 1)).toInt = 2 ^ (j + 1) - 1 := by decide
    rw [this j hj]; exact hx
  rw [ex, ey]
  have : ∀ j, j ≤ 7 → ∀ n, n ≤ j → ((nI (2 ^ (j + 1) - 1) >>> (nI n &&& 31)) &&& 1).toInt = 1 := by decide
  exact this j hj n (by omega)
def bitS (k x z : Int) : Prop := ∀ j : Nat, k ≤ j → j ≤ 7 → 0 ≤ k → x = 2 ^ (j + 1) - 1 → z = 1
theorem shl2p {y w : Int32} (e : w = (2 : Int32) <<< (y &&& 31)) (hy : 0 ≤ y.toInt ∧ y.toInt ≤ 7) : w.toInt = 2 ^ (y.toInt.toNat + 1) := by
  obtain ⟨n, hn, ey, e2⟩ := sh_nat hy
  rw [e, e2, ey]
  have : ∀ n : Nat, n ≤ 7 → ((2 : Int32) <<< (nI n &&& 31)).toInt = 2 ^ (((n : Int)).toNat + 1) := by decide
  exact this n hn
theorem p2pos {n : Nat} : (0 : Int) < 2 ^ (n + 1) := Int.pow_pos (by decide)
def I3 (od y x O : Int) : Prop := od = 10 → 2 ^ (y.toNat + 1) ≤ x → 0 < O
def I4 (od y x v : Int) : Prop := od = 10 → x = 2 ^ (y.toNat + 1) - 1 → 0 < v
theorem I3_0 {od y O : Int} : I3 od y 0 O := fun _ h => absurd (Int.lt_of_lt_of_le p2pos h) (by decide)
theorem I3_A {od y x x' v O L : Int} (i4 : I4 od y x v) (hv : v = 0) (hL : L = 2 ^ (y.toNat + 1)) (hlt : x < L) (hx : x' = x + 1) : I3 od y x' O := by
  intro h1 h2
  have := i4 h1 (by omega)
  omega
theorem I3_B {od y x O : Int} (h : 0 < O) : I3 od y x O := fun _ _ => h
theorem I4_0 {od y x v : Int} (h : 0 < v) : I4 od y x v := fun _ _ => h
theorem I4_1 {od y x v w q : Int} (i4 : I4 od y x v) (m : 0 < v → 0 < q → 0 < w) (hq : q = od) : I4 od y x w := fun h1 h2 => m (i4 h1 h2) (by omega)
theorem I4_n {od y x w k z : Int} (hb : bitS k x z) (hz : ¬ z = 1) (hk : 0 ≤ k ∧ k ≤ y) (hy : y ≤ 7) : I4 od y x w := fun _ h2 => absurd (hb y.toNat (by omega) (by omega) hk.1 h2) hz
theorem shl2b {y w : Int32} (e : w = (2 : Int32) <<< (y &&& 31)) (hy : 0 ≤ y.toInt ∧ y.toInt ≤ 7) : 2 ≤ w.toInt ∧ w.toInt ≤ 256 := by
  obtain ⟨n, hn, ey, e2⟩ := sh_nat hy
  rw [e, ey]
  have : ∀ n : Nat, n ≤ 7 → 2 ≤ ((2 : Int32) <<< (nI n &&& 31)).toInt ∧ ((2 : Int32) <<< (nI n &&& 31)).toInt ≤ 256 := by decide
  exact this n hn
