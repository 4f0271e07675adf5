/-! bits counted by nibbles and bytes -/
theorem andS {i a b c d : Nat} (hb : b < 2 ^ i) (hd : d < 2 ^ i) : (2 ^ i * a + b) &&& (2 ^ i * c + d) = 2 ^ i * (a &&& c) + (b &&& d) := by
  apply Nat.eq_of_testBit_eq
  intro j
  rw [Nat.testBit_and, Nat.testBit_two_pow_mul_add a hb, Nat.testBit_two_pow_mul_add c hd, Nat.testBit_two_pow_mul_add (a &&& c) (Nat.and_lt_two_pow b hd)]
  split
  · rw [Nat.testBit_and]
  · rw [Nat.testBit_and]
theorem and16 {a b c d : Nat} (hb : b < 16) (hd : d < 16) : (16 * a + b) &&& (16 * c + d) = 16 * (a &&& c) + (b &&& d) := andS (i := 4) hb hd
theorem and256 {a b c d : Nat} (hb : b < 256) (hd : d < 256) : (256 * a + b) &&& (256 * c + d) = 256 * (a &&& c) + (b &&& d) := andS (i := 8) hb hd
def m5 : Nat → Nat
  | 0 => 0
  | k + 1 => 16 * m5 k + 5
def m3 : Nat → Nat
  | 0 => 0
  | k + 1 => 16 * m3 k + 3
def mF : Nat → Nat
  | 0 => 0
  | k + 1 => 256 * mF k + 15
def f1 (r : Nat) : Nat := r - (r / 2 &&& 5)
def pc4 (r : Nat) : Nat := (f1 r &&& 3) + (f1 r / 4 &&& 3)
def pn : Nat → Nat → Nat
  | 0, _ => 0
  | k + 1, n => 16 * pn k (n / 16) + pc4 (n % 16)
theorem pc4_le {r : Nat} (h : r < 16) : pc4 r ≤ 4 := by
  have : ∀ r, r < 16 → pc4 r ≤ 4 := by decide
  exact this r h
theorem st1 : ∀ (k n : Nat), (n / 2 &&& m5 k) ≤ n ∧ ((n - (n / 2 &&& m5 k)) &&& m3 k) + ((n - (n / 2 &&& m5 k)) / 4 &&& m3 k) = pn k n := by
  intro k
  induction k with
  | zero =>
    intro n
    have e1 : n / 2 &&& m5 0 = 0 := Nat.and_zero _
    have e2 : ∀ x, x &&& m3 0 = 0 := fun x => Nat.and_zero _
    rw [e1, e2, e2]
    exact ⟨Nat.zero_le _, rfl⟩
  | succ k ih =>
    intro n
    obtain ⟨h1, h2⟩ := ih (n / 16)
    have a1 : n / 2 = 16 * (n / 16 / 2) + (8 * (n / 16 % 2) + n % 16 / 2) := by omega
    have a2 : ∀ q, q < 2 → ∀ r, r < 16 → ((8 * q + r / 2) &&& 5) = (r / 2 &&& 5) := by decide
    have a3 : n / 2 &&& m5 (k + 1) = 16 * (n / 16 / 2 &&& m5 k) + (n % 16 / 2 &&& 5) := by
      show n / 2 &&& (16 * m5 k + 5) = _
      rw [a1, and16 (by omega) (by decide), a2 (n / 16 % 2) (by omega) (n % 16) (by omega)]
    have a4 : ∀ r, r < 16 → (r / 2 &&& 5) ≤ r := by decide
    have a5 := a4 (n % 16) (by omega)
    have e : n - (n / 2 &&& m5 (k + 1)) = 16 * (n / 16 - (n / 16 / 2 &&& m5 k)) + f1 (n % 16) := by
      rw [a3]
      unfold f1
      omega
    have f16 : f1 (n % 16) < 16 := by unfold f1; omega
    refine ⟨by rw [a3]; omega, ?_⟩
    rw [e]
    generalize n / 16 - (n / 16 / 2 &&& m5 k) = X at h2 ⊢
    show ((16 * X + f1 (n % 16)) &&& (16 * m3 k + 3)) + ((16 * X + f1 (n % 16)) / 4 &&& (16 * m3 k + 3)) = 16 * pn k (n / 16) + pc4 (n % 16)
    have b1 : (16 * X + f1 (n % 16)) / 4 = 16 * (X / 4) + (4 * (X % 4) + f1 (n % 16) / 4) := by omega
    have b2 : ∀ q, q < 4 → ∀ r, r < 16 → ((4 * q + r / 4) &&& 3) = (r / 4 &&& 3) := by decide
    rw [b1, and16 f16 (by decide), and16 (by omega) (by decide), b2 (X % 4) (by omega) _ f16]
    unfold pc4
    omega
def bs : Nat → Nat → Nat
  | 0, _ => 0
  | k + 1, n => 256 * bs k (n / 256) + (pc4 (n % 16) + pc4 (n / 16 % 16))
theorem pn_mod (k n : Nat) : pn k n % 16 ≤ 4 := by
  cases k with
  | zero => exact Nat.zero_le _
  | succ k =>
    have := pc4_le (r := n % 16) (by omega)
    show (16 * pn k (n / 16) + pc4 (n % 16)) % 16 ≤ 4
    omega
theorem st2 : ∀ (k n : Nat), (pn (2 * k) n + pn (2 * k) n / 16) &&& mF k = bs k n := by
  intro k
  induction k with
  | zero => intro n; exact Nat.and_zero _
  | succ k ih =>
    intro n
    have h := ih (n / 256)
    have p1 := pc4_le (r := n % 16) (by omega)
    have p2 := pc4_le (r := n / 16 % 16) (by omega)
    have pm := pn_mod (2 * k) (n / 256)
    have e : pn (2 * (k + 1)) n = 256 * pn (2 * k) (n / 256) + (16 * pc4 (n / 16 % 16) + pc4 (n % 16)) := by
      show 16 * (16 * pn (2 * k) (n / 16 / 16) + pc4 (n / 16 % 16)) + pc4 (n % 16) = _
      rw [show n / 16 / 16 = n / 256 by omega]
      omega
    show (pn (2 * (k + 1)) n + pn (2 * (k + 1)) n / 16) &&& (256 * mF k + 15) = 256 * bs k (n / 256) + (pc4 (n % 16) + pc4 (n / 16 % 16))
    rw [e, ← h]
    generalize pn (2 * k) (n / 256) = V at pm ⊢
    generalize pc4 (n % 16) = A at p1 ⊢
    generalize pc4 (n / 16 % 16) = B at p2 ⊢
    have e2 : 256 * V + (16 * B + A) + (256 * V + (16 * B + A)) / 16 = 256 * (V + V / 16) + (16 * (B + V % 16) + (A + B)) := by omega
    rw [e2, and256 (by omega) (by decide), Nat.and_two_pow_sub_one_eq_mod _ 4]
    omega
/-- the count as it comes out of the bytes -/
theorem st3 {n : Nat} (hn : n < 2 ^ 60) : (let c := bs 8 n; let d := c + c / 256; let e := d + d / 65536; (e + e / 4294967296) % 128) ≤ 60 ∧ bs 8 n < 2 ^ 60 := by
  have c0 := pc4_le (r := n % 16) (by omega)
  have c1 := pc4_le (r := n / 16 % 16) (by omega)
  have c2 := pc4_le (r := n / 256 % 16) (by omega)
  have c3 := pc4_le (r := n / 256 / 16 % 16) (by omega)
  have c4 := pc4_le (r := n / 256 / 256 % 16) (by omega)
  have c5 := pc4_le (r := n / 256 / 256 / 16 % 16) (by omega)
  have c6 := pc4_le (r := n / 256 / 256 / 256 % 16) (by omega)
  have c7 := pc4_le (r := n / 256 / 256 / 256 / 16 % 16) (by omega)
  have c8 := pc4_le (r := n / 256 / 256 / 256 / 256 % 16) (by omega)
  have c9 := pc4_le (r := n / 256 / 256 / 256 / 256 / 16 % 16) (by omega)
  have d0 := pc4_le (r := n / 256 / 256 / 256 / 256 / 256 % 16) (by omega)
  have d1 := pc4_le (r := n / 256 / 256 / 256 / 256 / 256 / 16 % 16) (by omega)
  have d2 := pc4_le (r := n / 256 / 256 / 256 / 256 / 256 / 256 % 16) (by omega)
  have d3 := pc4_le (r := n / 256 / 256 / 256 / 256 / 256 / 256 / 16 % 16) (by omega)
  have d4 := pc4_le (r := n / 256 / 256 / 256 / 256 / 256 / 256 / 256 % 16) (by omega)
  have hn' : n < 1152921504606846976 := hn
  have d5 : pc4 (n / 256 / 256 / 256 / 256 / 256 / 256 / 256 / 16 % 16) = 0 := by
    rw [show n / 256 / 256 / 256 / 256 / 256 / 256 / 256 / 16 % 16 = 0 by omega]
    rfl
  have e : bs 8 n = 256 * (256 * (256 * (256 * (256 * (256 * (256 * (256 * 0 + (pc4 (n / 256 / 256 / 256 / 256 / 256 / 256 / 256 % 16) + pc4 (n / 256 / 256 / 256 / 256 / 256 / 256 / 256 / 16 % 16))) + (pc4 (n / 256 / 256 / 256 / 256 / 256 / 256 % 16) + pc4 (n / 256 / 256 / 256 / 256 / 256 / 256 / 16 % 16))) + (pc4 (n / 256 / 256 / 256 / 256 / 256 % 16) + pc4 (n / 256 / 256 / 256 / 256 / 256 / 16 % 16))) + (pc4 (n / 256 / 256 / 256 / 256 % 16) + pc4 (n / 256 / 256 / 256 / 256 / 16 % 16))) + (pc4 (n / 256 / 256 / 256 % 16) + pc4 (n / 256 / 256 / 256 / 16 % 16))) + (pc4 (n / 256 / 256 % 16) + pc4 (n / 256 / 256 / 16 % 16))) + (pc4 (n / 256 % 16) + pc4 (n / 256 / 16 % 16))) + (pc4 (n % 16) + pc4 (n / 16 % 16)) := rfl
  rw [e, d5]
  generalize pc4 (n % 16) = a0 at c0 ⊢
  generalize pc4 (n / 16 % 16) = a1 at c1 ⊢
  generalize pc4 (n / 256 % 16) = a2 at c2 ⊢
  generalize pc4 (n / 256 / 16 % 16) = a3 at c3 ⊢
  generalize pc4 (n / 256 / 256 % 16) = a4 at c4 ⊢
  generalize pc4 (n / 256 / 256 / 16 % 16) = a5 at c5 ⊢
  generalize pc4 (n / 256 / 256 / 256 % 16) = a6 at c6 ⊢
  generalize pc4 (n / 256 / 256 / 256 / 16 % 16) = a7 at c7 ⊢
  generalize pc4 (n / 256 / 256 / 256 / 256 % 16) = a8 at c8 ⊢
  generalize pc4 (n / 256 / 256 / 256 / 256 / 16 % 16) = a9 at c9 ⊢
  generalize pc4 (n / 256 / 256 / 256 / 256 / 256 % 16) = b0 at d0 ⊢
  generalize pc4 (n / 256 / 256 / 256 / 256 / 256 / 16 % 16) = b1 at d1 ⊢
  generalize pc4 (n / 256 / 256 / 256 / 256 / 256 / 256 % 16) = b2 at d2 ⊢
  generalize pc4 (n / 256 / 256 / 256 / 256 / 256 / 256 / 16 % 16) = b3 at d3 ⊢
  generalize pc4 (n / 256 / 256 / 256 / 256 / 256 / 256 / 256 % 16) = b4 at d4 ⊢
  clear e d5 hn hn'
  obtain ⟨x0, hx0⟩ : ∃ x, a0 + a1 = x := ⟨_, rfl⟩
  obtain ⟨x1, hx1⟩ : ∃ x, a2 + a3 = x := ⟨_, rfl⟩
  obtain ⟨x2, hx2⟩ : ∃ x, a4 + a5 = x := ⟨_, rfl⟩
  obtain ⟨x3, hx3⟩ : ∃ x, a6 + a7 = x := ⟨_, rfl⟩
  obtain ⟨x4, hx4⟩ : ∃ x, a8 + a9 = x := ⟨_, rfl⟩
  obtain ⟨x5, hx5⟩ : ∃ x, b0 + b1 = x := ⟨_, rfl⟩
  obtain ⟨x6, hx6⟩ : ∃ x, b2 + b3 = x := ⟨_, rfl⟩
  have y0 : x0 ≤ 8 := by omega
  have y1 : x1 ≤ 8 := by omega
  have y2 : x2 ≤ 8 := by omega
  have y3 : x3 ≤ 8 := by omega
  have y4 : x4 ≤ 8 := by omega
  have y5 : x5 ≤ 8 := by omega
  have y6 : x6 ≤ 8 := by omega
  rw [hx0, hx1, hx2, hx3, hx4, hx5, hx6, Nat.add_zero b4]
  clear hx0 hx1 hx2 hx3 hx4 hx5 hx6 c0 c1 c2 c3 c4 c5 c6 c7 c8 c9 d0 d1 d2 d3
  dsimp only
  have q1 : (256 * (256 * (256 * (256 * (256 * (256 * (256 * (256 * 0 + b4) + x6) + x5) + x4) + x3) + x2) + x1) + x0) / 256 = 256 * (256 * (256 * (256 * (256 * (256 * b4 + x6) + x5) + x4) + x3) + x2) + x1 := by omega
  rw [q1]
  have q2 : (256 * (256 * (256 * (256 * (256 * (256 * (256 * (256 * 0 + b4) + x6) + x5) + x4) + x3) + x2) + x1) + x0 + (256 * (256 * (256 * (256 * (256 * (256 * b4 + x6) + x5) + x4) + x3) + x2) + x1)) / 65536 = 256 * (256 * (256 * (256 * (256 * b4 + (x6 + b4)) + (x5 + x6)) + (x4 + x5)) + (x3 + x4)) + (x2 + x3) := by omega
  rw [q2]
  refine ⟨?_, by omega⟩
  have q3 : (256 * (256 * (256 * (256 * (256 * (256 * (256 * (256 * 0 + b4) + x6) + x5) + x4) + x3) + x2) + x1) + x0 + (256 * (256 * (256 * (256 * (256 * (256 * b4 + x6) + x5) + x4) + x3) + x2) + x1) + (256 * (256 * (256 * (256 * (256 * b4 + (x6 + b4)) + (x5 + x6)) + (x4 + x5)) + (x3 + x4)) + (x2 + x3))) / 4294967296 = 256 * (256 * (256 * b4 + (x6 + b4)) + (x5 + x6 + b4)) + (x4 + x5 + x6 + b4) := by omega
  rw [q3]
  clear q1 q2 q3
  have q4 : 256 * (256 * (256 * (256 * (256 * (256 * (256 * (256 * 0 + b4) + x6) + x5) + x4) + x3) + x2) + x1) + x0 + (256 * (256 * (256 * (256 * (256 * (256 * b4 + x6) + x5) + x4) + x3) + x2) + x1) + (256 * (256 * (256 * (256 * (256 * b4 + (x6 + b4)) + (x5 + x6)) + (x4 + x5)) + (x3 + x4)) + (x2 + x3)) + (256 * (256 * (256 * b4 + (x6 + b4)) + (x5 + x6 + b4)) + (x4 + x5 + x6 + b4)) = 256 * ((256 * (256 * (256 * (256 * (256 * (256 * (256 * 0 + b4) + x6) + x5) + x4) + x3) + x2) + x1) + (256 * (256 * (256 * (256 * (256 * b4 + x6) + x5) + x4) + x3) + x2) + (256 * (256 * (256 * (256 * b4 + (x6 + b4)) + (x5 + x6)) + (x4 + x5)) + (x3 + x4)) + (256 * (256 * b4 + (x6 + b4)) + (x5 + x6 + b4))) + (x0 + x1 + x2 + x3 + x4 + x5 + x6 + b4) := by omega
  rw [q4]
  generalize (256 * (256 * (256 * (256 * (256 * (256 * (256 * 0 + b4) + x6) + x5) + x4) + x3) + x2) + x1) + (256 * (256 * (256 * (256 * (256 * b4 + x6) + x5) + x4) + x3) + x2) + (256 * (256 * (256 * (256 * b4 + (x6 + b4)) + (x5 + x6)) + (x4 + x5)) + (x3 + x4)) + (256 * (256 * b4 + (x6 + b4)) + (x5 + x6 + b4)) = TT
  have hs : x0 + x1 + x2 + x3 + x4 + x5 + x6 + b4 ≤ 60 := by omega
  generalize x0 + x1 + x2 + x3 + x4 + x5 + x6 + b4 = s at hs ⊢
  clear q4 y0 y1 y2 y3 y4 y5 y6 d4
  omega
theorem m5_16 : m5 16 = 6148914691236517205 := by decide
theorem m3_16 : m3 16 = 3689348814741910323 := by decide
theorem mF_8 : mF 8 = 1085102592571150095 := by decide
/-- the whole count, on numbers -/
theorem bcN {n : Nat} (hn : n < 2 ^ 60) : ∃ i1 i2 i3 : Nat, i1 = n - (n / 2 &&& 6148914691236517205) ∧ (n / 2 &&& 6148914691236517205) ≤ n ∧ i2 = (i1 &&& 3689348814741910323) + (i1 / 4 &&& 3689348814741910323) ∧ i3 = (i2 + i2 / 16) &&& 1085102592571150095 ∧ i2 ≤ 4919131752989213764 ∧ i3 < 2 ^ 60 ∧ (i3 + i3 / 256 + (i3 + i3 / 256) / 65536 + (i3 + i3 / 256 + (i3 + i3 / 256) / 65536) / 4294967296) % 128 ≤ 60 := by
  obtain ⟨a1, a2⟩ := st1 16 n
  rw [m5_16] at a1 a2
  rw [m3_16] at a2
  have b := st2 8 n
  rw [mF_8] at b
  have c := st3 hn
  have lt : ∀ k n, pn k n < 16 ^ k := by
    intro k
    induction k with
    | zero => intro n; exact Nat.one_pos
    | succ k ih =>
      intro n
      have := ih (n / 16)
      have := pc4_le (r := n % 16) (by omega)
      show 16 * pn k (n / 16) + pc4 (n % 16) < 16 ^ k * 16
      omega
  refine ⟨_, _, _, rfl, a1, rfl, rfl, ?_, ?_, ?_⟩
  · rw [a2]
    have e : pn 16 n = 16 * pn 15 (n / 16) + pc4 (n % 16) := rfl
    have h15 := lt 15 (n / 16)
    have e15 : pn 15 (n / 16) = 16 * pn 14 (n / 16 / 16) + pc4 (n / 16 % 16) := rfl
    have top : ∀ k n, pn k n ≤ 4 * (16 ^ k - 1) / 15 := by
      intro k
      induction k with
      | zero => intro n; exact Nat.zero_le _
      | succ k ih =>
        intro n
        have h1 := ih (n / 16)
        have h2 := pc4_le (r := n % 16) (by omega)
        have h3 : 16 ^ (k + 1) = 16 ^ k * 16 := Nat.pow_succ _ _
        have h4 : 0 < 16 ^ k := Nat.pow_pos (by decide)
        have h5 : ∃ q, 16 ^ k = 15 * q + 1 := by
          clear h1 h2 h3 h4 ih
          induction k with
          | zero => exact ⟨0, rfl⟩
          | succ k ih => obtain ⟨q, hq⟩ := ih; exact ⟨16 * q + 1, by rw [Nat.pow_succ, hq]; omega⟩
        obtain ⟨q, hq⟩ := h5
        show 16 * pn k (n / 16) + pc4 (n % 16) ≤ 4 * (16 ^ (k + 1) - 1) / 15
        rw [h3, hq]
        rw [hq] at h1
        omega
    have := top 16 n
    rw [show 4 * (16 ^ 16 - 1) / 15 = 4919131752989213764 by decide] at this
    exact this
  · rw [a2, b]; exact c.2
  · rw [a2, b]; exact c.1
