/-! the states that layRound can come to: a rank below rk_c 27 8, injective; some 4.03e8, below 2^30 -/
def rk_w (n : Nat) : Nat := if n < 21 then 1 else 6
def rk_c : Nat → Nat → Nat
  | 0, _ => 1
  | n + 1, 0 => rk_c n 0
  | n + 1, m + 1 => rk_c n (m + 1) + rk_w n * rk_c n m
/-- f i: 0 the slot i is empty, k + 1 it has a bucket, of its k-th kind; m buckets at most -/
def rk_r (f : Nat → Nat) : Nat → Nat → Nat
  | 0, _ => 0
  | n + 1, 0 => rk_r f n 0
  | n + 1, m + 1 => if f n = 0 then rk_r f n (m + 1) else rk_c n (m + 1) + (f n - 1) * rk_c n m + rk_r f n m
def rk_many (f : Nat → Nat) : Nat → Nat
  | 0 => 0
  | n + 1 => rk_many f n + if f n = 0 then 0 else 1
theorem rk_lt (f : Nat → Nat) : ∀ (n m : Nat), (∀ i, i < n → f i ≤ rk_w i) → rk_many f n ≤ m → rk_r f n m < rk_c n m := by
  intro n
  induction n with
  | zero => intro m _ _; exact Nat.one_pos
  | succ n ih =>
    intro m hw hm
    have hw' : ∀ i, i < n → f i ≤ rk_w i := fun i hi => hw i (by omega)
    cases m with
    | zero =>
      have h0 : rk_many f n ≤ 0 := by unfold rk_many at hm; omega
      exact ih 0 hw' h0
    | succ m =>
      show (if f n = 0 then rk_r f n (m + 1) else rk_c n (m + 1) + (f n - 1) * rk_c n m + rk_r f n m) < rk_c n (m + 1) + rk_w n * rk_c n m
      by_cases hf : f n = 0
      · rw [if_pos hf]
        have h0 : rk_many f n ≤ m + 1 := by unfold rk_many at hm; omega
        have := ih (m + 1) hw' h0
        omega
      · rw [if_neg hf]
        have h0 : rk_many f n ≤ m := by unfold rk_many at hm; rw [if_neg hf] at hm; omega
        have h1 := ih m hw' h0
        have h2 := hw n (by omega)
        have h3 : (f n - 1) * rk_c n m + rk_c n m ≤ rk_w n * rk_c n m := by
          have : f n - 1 + 1 ≤ rk_w n := by omega
          calc (f n - 1) * rk_c n m + rk_c n m = (f n - 1 + 1) * rk_c n m := by rw [Nat.add_mul, Nat.one_mul]
            _ ≤ rk_w n * rk_c n m := Nat.mul_le_mul_right _ this
        omega
theorem rk_inj (f h : Nat → Nat) : ∀ (n m : Nat), (∀ i, i < n → f i ≤ rk_w i) → (∀ i, i < n → h i ≤ rk_w i) → rk_many f n ≤ m → rk_many h n ≤ m → rk_r f n m = rk_r h n m → ∀ i, i < n → f i = h i := by
  intro n
  induction n with
  | zero => intro m _ _ _ _ _ i hi; omega
  | succ n ih =>
    intro m wf wh mf mh e i hi
    have wf' : ∀ i, i < n → f i ≤ rk_w i := fun i hi => wf i (by omega)
    have wh' : ∀ i, i < n → h i ≤ rk_w i := fun i hi => wh i (by omega)
    unfold rk_many at mf mh
    cases m with
    | zero =>
      have ef : f n = 0 := by by_cases q : f n = 0; exact q; rw [if_neg q] at mf; omega
      have eh : h n = 0 := by by_cases q : h n = 0; exact q; rw [if_neg q] at mh; omega
      unfold rk_r at e
      rcases Nat.lt_or_ge i n with q | q
      · exact ih 0 wf' wh' (by omega) (by omega) e i q
      · have : i = n := by omega
        subst this; rw [ef, eh]
    | succ m =>
      unfold rk_r at e
      by_cases ef : f n = 0
      · rw [if_pos ef] at e mf
        by_cases eh : h n = 0
        · rw [if_pos eh] at e mh
          rcases Nat.lt_or_ge i n with q | q
          · exact ih (m + 1) wf' wh' (by omega) (by omega) e i q
          · have : i = n := by omega
            subst this; rw [ef, eh]
        · rw [if_neg eh] at e mh
          have := rk_lt f n (m + 1) wf' (by omega)
          omega
      · rw [if_neg ef] at e mf
        by_cases eh : h n = 0
        · rw [if_pos eh] at e mh
          have := rk_lt h n (m + 1) wh' (by omega)
          omega
        · rw [if_neg eh] at e mh
          have lf := rk_lt f n m wf' (by omega)
          have lh := rk_lt h n m wh' (by omega)
          have e2 : (f n - 1) * rk_c n m + rk_r f n m = (h n - 1) * rk_c n m + rk_r h n m := by omega
          have e3 : f n - 1 = h n - 1 := by
            rcases Nat.lt_trichotomy (f n - 1) (h n - 1) with q | q | q
            · have : (f n - 1 + 1) * rk_c n m ≤ (h n - 1) * rk_c n m := Nat.mul_le_mul_right _ q
              rw [Nat.add_mul, Nat.one_mul] at this; omega
            · exact q
            · have : (h n - 1 + 1) * rk_c n m ≤ (f n - 1) * rk_c n m := Nat.mul_le_mul_right _ q
              rw [Nat.add_mul, Nat.one_mul] at this; omega
          rw [e3] at e2
          rcases Nat.lt_or_ge i n with q | q
          · exact ih m wf' wh' (by omega) (by omega) (by omega) i q
          · have : i = n := by omega
            subst this; omega
theorem pg_hole : ∀ (N : Nat) (f : Nat → Nat), (∀ i, i ≤ N → f i < N) → ∃ i j, i < j ∧ j ≤ N ∧ f i = f j := by
  intro N
  induction N with
  | zero => intro f h; exact absurd (h 0 (Nat.le_refl 0)) (Nat.not_lt_zero _)
  | succ N ih =>
    intro f h
    by_cases q : ∃ i, i ≤ N ∧ f i = f (N + 1)
    · obtain ⟨i, h1, h2⟩ := q
      exact ⟨i, N + 1, by omega, Nat.le_refl _, h2⟩
    · have hv := h (N + 1) (Nat.le_refl _)
      have hne : ∀ i, i ≤ N → f i ≠ f (N + 1) := fun i hi e => q ⟨i, hi, e⟩
      obtain ⟨i, j, h1, h2, h3⟩ := ih (fun i => if f i < f (N + 1) then f i else f i - 1) (fun i hi => by
        have a := h i (by omega)
        have b := hne i hi
        show (if f i < f (N + 1) then f i else f i - 1) < N
        split <;> omega)
      refine ⟨i, j, h1, by omega, ?_⟩
      have a := hne i (by omega)
      have b := hne j h2
      split at h3 <;> split at h3 <;> omega
