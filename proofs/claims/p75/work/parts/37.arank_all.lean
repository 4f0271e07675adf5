/-! the states that layRound can come to: a rank below rk_c 27 8, injective; some 4.03e8, below 2^30 -/
def rk_w (n : Nat) : Nat := if n < 21 then 1 else 6
def rk_c : Nat → Nat → Nat
  | 0, _ => 1
  | n + 1, 0 => rk_c n 0
  | n + 1, m + 1 => rk_c n (m + 1) + rk_w n * rk_c n m
/-- f i: 0 the slot i is empty, k + 1 it has a bucket, of its k-th kind; m buckets at most -/
def rk_r (f : Nat → Nat) : Nat → Nat → Nat
  | 0, _ => 0
  | n + 1, 0 => rk_r f n 0
  | n + 1, m + 1 => if f n = 0 then rk_r f n (m + 1) else rk_c n (m + 1) + (f n - 1) * rk_c n m + rk_r f n m
def rk_many (f : Nat → Nat) : Nat → Nat
  | 0 => 0
  | n + 1 => rk_many f n + if f n = 0 then 0 else 1
theorem rk_lt (f : Nat → Nat) : ∀ (n m : Nat), (∀ i, i < n → f i ≤ rk_w i) → rk_many f n ≤ m → rk_r f n m < rk_c n m := by
  intro n
  induction n with
  | zero => intro m _ _; exact Nat.one_pos
  | succ n ih =>
    intro m hw hm
    have hw' : ∀ i, i < n → f i ≤ rk_w i := fun i hi => hw i (by omega)
    cases m with
    | zero =>
      have h0 : rk_many f n ≤ 0 := by unfold rk_many at hm; omega
      exact ih 0 hw' h0
    | succ m =>
      show (if f n = 0 then rk_r f n (m + 1) else rk_c n (m + 1) + (f n - 1) * rk_c n m + rk_r f n m) < rk_c n (m + 1) + rk_w n * rk_c n m
      by_cases hf : f n = 0
      · rw [if_pos hf]
        have h0 : rk_many f n ≤ m + 1 := by unfold rk_many at hm; omega
        have := ih (m + 1) hw' h0
        omega
      · rw [if_neg hf]
        have h0 : rk_many f n ≤ m := by unfold rk_many at hm; rw [if_neg hf] at hm; omega
        have h1 := ih m hw' h0
        have h2 := hw n (by omega)
        have h3 : (f n - 1) * rk_c n m + rk_c n m ≤ rk_w n * rk_c n m := by
          have : f n - 1 + 1 ≤ rk_w n := by omega
          calc (f n - 1) * rk_c n m + rk_c n m = (f n - 1 + 1) * rk_c n m := by rw [Nat.add_mul, Nat.one_mul]
            _ ≤ rk_w n * rk_c n m := Nat.mul_le_mul_right _ this
        omega
theorem rk_inj (f h : Nat → Nat) : ∀ (n m : Nat), (∀ i, i < n → f i ≤ rk_w i) → (∀ i, i < n → h i ≤ rk_w i) → rk_many f n ≤ m → rk_many h n ≤ m → rk_r f n m = rk_r h n m → ∀ i, i < n → f i = h i := by
  intro n
  induction n with
  | zero => intro m _ _ _ _ _ i hi; omega
  | succ n ih =>
    intro m wf wh mf mh e i hi
    have wf' : ∀ i, i < n → f i ≤ rk_w i := fun i hi => wf i (by omega)
    have wh' : ∀ i, i < n → h i ≤ rk_w i := fun i hi => wh i (by omega)
    unfold rk_many at mf mh
    cases m with
    | zero =>
      have ef : f n = 0 := by by_cases q : f n = 0; exact q; rw [if_neg q] at mf; omega
      have eh : h n = 0 := by by_cases q : h n = 0; exact q; rw [if_neg q] at mh; omega
      unfold rk_r at e
      rcases Nat.lt_or_ge i n with q | q
      · exact ih 0 wf' wh' (by omega) (by omega) e i q
      · have : i = n := by omega
        subst this; rw [ef, eh]
    | succ m =>
      unfold rk_r at e
      by_cases ef : f n = 0
      · rw [if_pos ef] at e mf
        by_cases eh : h n = 0
        · rw [if_pos eh] at e mh
          rcases Nat.lt_or_ge i n with q | q
          · exact ih (m + 1) wf' wh' (by omega) (by omega) e i q
          · have : i = n := by omega
            subst this; rw [ef, eh]
        · rw [if_neg eh] at e mh
          have := rk_lt f n (m + 1) wf' (by omega)
          omega
      · rw [if_neg ef] at e mf
        by_cases eh : h n = 0
        · rw [if_pos eh] at e mh
          have := rk_lt h n (m + 1) wh' (by omega)
          omega
        · rw [if_neg eh] at e mh
          have lf := rk_lt f n m wf' (by omega)
          have lh := rk_lt h n m wh' (by omega)
          have e2 : (f n - 1) * rk_c n m + rk_r f n m = (h n - 1) * rk_c n m + rk_r h n m := by omega
          have e3 : f n - 1 = h n - 1 := by
            rcases Nat.lt_trichotomy (f n - 1) (h n - 1) with q | q | q
            · have : (f n - 1 + 1) * rk_c n m ≤ (h n - 1) * rk_c n m := Nat.mul_le_mul_right _ q
              rw [Nat.add_mul, Nat.one_mul] at this; omega
            · exact q
            · have : (h n - 1 + 1) * rk_c n m ≤ (f n - 1) * rk_c n m := Nat.mul_le_mul_right _ q
              rw [Nat.add_mul, Nat.one_mul] at this; omega
          rw [e3] at e2
          rcases Nat.lt_or_ge i n with q | q
          · exact ih m wf' wh' (by omega) (by omega) (by omega) i q
          · have : i = n := by omega
            subst this; omega
theorem pg_hole : ∀ (N : Nat) (f : Nat → Nat), (∀ i, i ≤ N → f i < N) → ∃ i j, i < j ∧ j ≤ N ∧ f i = f j := by
  intro N
  induction N with
  | zero => intro f h; exact absurd (h 0 (Nat.le_refl 0)) (Nat.not_lt_zero _)
  | succ N ih =>
    intro f h
    by_cases q : ∃ i, i ≤ N ∧ f i = f (N + 1)
    · obtain ⟨i, h1, h2⟩ := q
      exact ⟨i, N + 1, by omega, Nat.le_refl _, h2⟩
    · have hv := h (N + 1) (Nat.le_refl _)
      have hne : ∀ i, i ≤ N → f i ≠ f (N + 1) := fun i hi e => q ⟨i, hi, e⟩
      obtain ⟨i, j, h1, h2, h3⟩ := ih (fun i => if f i < f (N + 1) then f i else f i - 1) (fun i hi => by
        have a := h i (by omega)
        have b := hne i hi
        show (if f i < f (N + 1) then f i else f i - 1) < N
        split <;> omega)
      refine ⟨i, j, h1, by omega, ?_⟩
      have a := hne i (by omega)
      have b := hne j h2
      split at h3 <;> split at h3 <;> omega

/-! The round, by numbers: a line in which nobody rests. -/
def uI (f : Nat → Int) (j : Nat) (v : Int) : Nat → Int := fun i => if i = j then v else f i
theorem uI_s {f : Nat → Int} {j : Nat} {v : Int} : uI f j v j = v := if_pos rfl
theorem uI_n {f : Nat → Int} {j i : Nat} {v : Int} (h : i ≠ j) : uI f j v i = f i := if_neg h
abbrev WS : Type := (Nat → Int) × (Nat → Int)
def wPlace (P : Nat → Int) (m r p : Nat) (s : WS) : WS :=
  if s.1 p < P p then s
  else if p + 1 = m then (uI s.1 p (-1), uI s.2 r (s.2 r + 1))
  else if s.1 (p + 1) = -1 then (uI (uI s.1 (p + 1) 0) p (-1), s.2)
  else s
def wPlaces (P : Nat → Int) (m r : Nat) : Nat → WS → WS
  | 0, s => s
  | p + 1, s => wPlaces P m r p (wPlace P m r p s)
def wShift (b : Nat → Int) : Nat → Int := fun j => if j = 0 then b 0 + b 1 else if j < 22 then b (j + 1) else if j = 22 then 0 else b j
def wTake (m : Nat) (s : WS) : WS := if 0 < m then (if s.1 0 = -1 then (if 0 < s.2 0 then (uI s.1 0 0, uI s.2 0 (s.2 0 - 1)) else s) else s) else s
def wHold (p : Nat) (s : WS) : WS := if s.1 p = -1 then s else (uI s.1 p (s.1 p + 1), s.2)
def wHolds : Nat → WS → WS
  | 0, s => s
  | c + 1, s => wHold c (wHolds c s)
def wSec0 (P : Nat → Int) (m r : Nat) (s : WS) : WS := wHolds m (wTake m (wPlaces P m r m s))
def wSec (P : Nat → Int) (m r : Nat) (s : WS) : WS := wSec0 P m r (s.1, wShift s.2)
/-! two lines alike stay alike -/
def RLk (P : Nat → Int) (s t : WS) : Prop := (∀ p, p < 6 → min (s.1 p) (P p) = min (t.1 p) (P p) ∧ -1 ≤ s.1 p ∧ -1 ≤ t.1 p) ∧ (∀ j, j < 23 → s.2 j = t.2 j)
theorem RLk_a {P : Nat → Int} {s t : WS} {p : Nat} {v : Int} (hv : -1 ≤ v) (h : RLk P s t) : RLk P (uI s.1 p v, s.2) (uI t.1 p v, t.2) := by
  refine ⟨fun q hq => ?_, h.2⟩
  by_cases c : q = p
  · subst c
    simp only [uI_s]
    exact ⟨trivial, hv, hv⟩
  · simp only [uI_n c]
    exact h.1 q hq
theorem RLk_b {P : Nat → Int} {s t : WS} {j : Nat} {v w : Int} (hv : v = w) (h : RLk P s t) : RLk P (s.1, uI s.2 j v) (t.1, uI t.2 j w) := by
  refine ⟨h.1, fun i hi => ?_⟩
  by_cases c : i = j
  · subst c
    simp only [uI_s]
    exact hv
  · simp only [uI_n c]
    exact h.2 i hi
theorem RLk_place {P : Nat → Int} {m r p : Nat} {s t : WS} (hP : ∀ q, q < 6 → 0 ≤ P q) (hm : m ≤ 6) (hp : p < m) (hr : r < 23) (h : RLk P s t) : RLk P (wPlace P m r p s) (wPlace P m r p t) := by
  have h1 := h.1 p (by omega)
  have hp0 := hP p (by omega)
  unfold wPlace
  by_cases c1 : s.1 p < P p
  · rw [if_pos c1, if_pos (by omega)]
    exact h
  · rw [if_neg c1, if_neg (show ¬ t.1 p < P p by omega)]
    by_cases c2 : p + 1 = m
    · rw [if_pos c2, if_pos c2]
      exact RLk_b (by rw [h.2 r hr]) (RLk_a (by decide) h)
    · rw [if_neg c2, if_neg c2]
      have h2 := h.1 (p + 1) (by omega)
      have hq0 := hP (p + 1) (by omega)
      by_cases c3 : s.1 (p + 1) = -1
      · rw [if_pos c3, if_pos (by omega)]
        exact RLk_a (s := (uI s.1 (p + 1) 0, s.2)) (t := (uI t.1 (p + 1) 0, t.2)) (by decide) (RLk_a (by decide) h)
      · rw [if_neg c3, if_neg (by omega)]
        exact h
theorem RLk_places {P : Nat → Int} {m r : Nat} (hP : ∀ q, q < 6 → 0 ≤ P q) (hm : m ≤ 6) (hr : r < 23) : ∀ (p : Nat) (s t : WS), p ≤ m → RLk P s t → RLk P (wPlaces P m r p s) (wPlaces P m r p t) := by
  intro p
  induction p with
  | zero => intro s t _ h; exact h
  | succ p ih => intro s t hp h; exact ih _ _ (by omega) (RLk_place hP hm (by omega) hr h)
theorem RLk_take {P : Nat → Int} {m : Nat} {s t : WS} (hP : ∀ q, q < 6 → 0 ≤ P q) (hm : m ≤ 6) (h : RLk P s t) : RLk P (wTake m s) (wTake m t) := by
  unfold wTake
  by_cases c0 : 0 < m
  · rw [if_pos c0, if_pos c0]
    have h1 := h.1 0 (by omega)
    have hp0 := hP 0 (by omega)
    have hb := h.2 0 (by omega)
    by_cases c1 : s.1 0 = -1
    · rw [if_pos c1, if_pos (show t.1 0 = -1 by omega)]
      by_cases c2 : 0 < s.2 0
      · rw [if_pos c2, if_pos (show 0 < t.2 0 by omega)]
        exact RLk_b (by rw [hb]) (RLk_a (by decide) h)
      · rw [if_neg c2, if_neg (show ¬ 0 < t.2 0 by omega)]
        exact h
    · rw [if_neg c1, if_neg (show ¬ t.1 0 = -1 by omega)]
      exact h
  · rw [if_neg c0, if_neg c0]
    exact h
theorem RLk_hold {P : Nat → Int} {p : Nat} {s t : WS} (hP : ∀ q, q < 6 → 0 ≤ P q) (hp : p < 6) (h : RLk P s t) : RLk P (wHold p s) (wHold p t) := by
  have h1 := h.1 p hp
  have hp0 := hP p hp
  unfold wHold
  by_cases c1 : s.1 p = -1
  · rw [if_pos c1, if_pos (by omega)]
    exact h
  · rw [if_neg c1, if_neg (by omega)]
    refine ⟨fun q hq => ?_, h.2⟩
    by_cases c : q = p
    · subst c
      simp only [uI_s]
      omega
    · simp only [uI_n c]
      exact h.1 q hq
theorem RLk_holds {P : Nat → Int} (hP : ∀ q, q < 6 → 0 ≤ P q) : ∀ (c : Nat) (s t : WS), c ≤ 6 → RLk P s t → RLk P (wHolds c s) (wHolds c t) := by
  intro c
  induction c with
  | zero => intro s t _ h; exact h
  | succ c ih => intro s t hc h; exact RLk_hold hP (by omega) (ih s t (by omega) h)
theorem RLk_shift {P : Nat → Int} {s t : WS} (h : RLk P s t) : RLk P (s.1, wShift s.2) (t.1, wShift t.2) := by
  refine ⟨h.1, fun j hj => ?_⟩
  have h0 := h.2 0 (by omega)
  have h1 := h.2 1 (by omega)
  show wShift s.2 j = wShift t.2 j
  unfold wShift
  by_cases c0 : j = 0
  · rw [if_pos c0, if_pos c0, h0, h1]
  · rw [if_neg c0, if_neg c0]
    by_cases c1 : j < 22
    · rw [if_pos c1, if_pos c1, h.2 (j + 1) (by omega)]
    · rw [if_neg c1, if_neg c1, if_pos (by omega), if_pos (by omega)]
theorem RLk_sec0 {P : Nat → Int} {m r : Nat} {s t : WS} (hP : ∀ q, q < 6 → 0 ≤ P q) (hm : m ≤ 6) (hr : r < 23) (h : RLk P s t) : RLk P (wSec0 P m r s) (wSec0 P m r t) :=
  RLk_holds hP m _ _ hm (RLk_take hP hm (RLk_places hP hm hr m _ _ (Nat.le_refl _) h))
theorem RLk_sec {P : Nat → Int} {m r : Nat} {s t : WS} (hP : ∀ q, q < 6 → 0 ≤ P q) (hm : m ≤ 6) (hr : r < 23) (h : RLk P s t) : RLk P (wSec P m r s) (wSec P m r t) :=
  RLk_sec0 hP hm hr (RLk_shift h)
/-! buckets are kept -/
def sm (f : Nat → Int) : Nat → Int
  | 0 => 0
  | n + 1 => sm f n + f n
theorem sm_u {f : Nat → Int} {j : Nat} {v : Int} : ∀ n : Nat, sm (uI f j v) n = if j < n then sm f n - f j + v else sm f n := by
  intro n
  induction n with
  | zero => rw [if_neg (by omega)]; rfl
  | succ n ih =>
    show sm (uI f j v) n + uI f j v n = _
    rw [ih]
    show _ = if j < n + 1 then sm f n + f n - f j + v else sm f n + f n
    by_cases c : j < n
    · rw [if_pos c, if_pos (by omega), uI_n (by omega)]
      omega
    · rw [if_neg c]
      by_cases c2 : j = n
      · subst c2
        rw [if_pos (by omega), uI_s]
        omega
      · rw [if_neg (by omega), uI_n (by omega)]
def ind (a : Nat → Int) : Nat → Int := fun p => if a p = -1 then 0 else 1
theorem ind_u {a : Nat → Int} {p : Nat} {v : Int} : ind (uI a p v) = uI (ind a) p (if v = -1 then 0 else 1) := by
  funext q
  unfold ind
  by_cases c : q = p
  · subst c
    rw [uI_s, uI_s]
  · rw [uI_n c, uI_n c]
def JM (m : Nat) (B T : Int) (s : WS) : Prop := (∀ p, p < 6 → -1 ≤ s.1 p ∧ s.1 p ≤ T) ∧ (∀ p, m ≤ p → p < 6 → s.1 p = -1) ∧ (∀ j, j < 23 → 0 ≤ s.2 j) ∧ sm s.2 23 + sm (ind s.1) m = B
/-- nothing behind r; one at most but at the river -/
def JR (r : Nat) (b : Nat → Int) : Prop := (∀ j, 1 ≤ j → j < 23 → b j ≤ 1) ∧ (∀ j, r < j → j < 23 → b j = 0)
theorem JM_place {P : Nat → Int} {m r p : Nat} {B T : Int} {s : WS} (hT : 0 ≤ T) (hP : ∀ q, q < 6 → 0 ≤ P q) (hm : m ≤ 6) (hp : p < m) (hr : r < 23) (h : JM m B T s) : JM m B T (wPlace P m r p s) := by
  obtain ⟨h1, h2, h3, h4⟩ := h
  have hp0 := hP p (by omega)
  unfold wPlace
  by_cases c1 : s.1 p < P p
  · rw [if_pos c1]
    exact ⟨h1, h2, h3, h4⟩
  · rw [if_neg c1]
    have ip : ind s.1 p = 1 := if_neg (by omega)
    by_cases c2 : p + 1 = m
    · rw [if_pos c2]
      refine ⟨fun q hq => ?_, fun q hq hq6 => ?_, fun j hj => ?_, ?_⟩
      · by_cases c : q = p
        · subst c; simp only [uI_s]; omega
        · simp only [uI_n c]; exact h1 q hq
      · simp only [uI_n (show q ≠ p by omega)]; exact h2 q hq hq6
      · have := h3 r hr
        by_cases c : j = r
        · subst c; simp only [uI_s]; omega
        · simp only [uI_n c]; exact h3 j hj
      · show sm (uI s.2 r (s.2 r + 1)) 23 + sm (ind (uI s.1 p (-1))) m = B
        rw [ind_u, sm_u, sm_u, if_pos hr, if_pos hp, ip]
        simp only [if_pos]
        omega
    · rw [if_neg c2]
      by_cases c3 : s.1 (p + 1) = -1
      · rw [if_pos c3]
        have iq : ind s.1 (p + 1) = 0 := if_pos c3
        refine ⟨fun q hq => ?_, fun q hq hq6 => ?_, h3, ?_⟩
        · show -1 ≤ uI (uI s.1 (p + 1) 0) p (-1) q ∧ uI (uI s.1 (p + 1) 0) p (-1) q ≤ T
          by_cases c : q = p
          · subst c; rw [uI_s]; omega
          · rw [uI_n c]
            by_cases d : q = p + 1
            · subst d; rw [uI_s]; omega
            · rw [uI_n d]; exact h1 q hq
        · show uI (uI s.1 (p + 1) 0) p (-1) q = -1
          rw [uI_n (show q ≠ p by omega), uI_n (show q ≠ p + 1 by omega)]
          exact h2 q hq hq6
        · show sm s.2 23 + sm (ind (uI (uI s.1 (p + 1) 0) p (-1))) m = B
          rw [ind_u, ind_u, sm_u, sm_u, if_pos hp, if_pos (show p + 1 < m by omega), uI_n (show p ≠ p + 1 by omega), ip, iq]
          simp only [if_pos]
          rw [if_neg (show ¬ (0 : Int) = -1 by decide)]
          omega
      · rw [if_neg c3]
        exact ⟨h1, h2, h3, h4⟩
theorem JM_places {P : Nat → Int} {m r : Nat} {B T : Int} (hT : 0 ≤ T) (hP : ∀ q, q < 6 → 0 ≤ P q) (hm : m ≤ 6) (hr : r < 23) : ∀ (p : Nat) (s : WS), p ≤ m → JM m B T s → JM m B T (wPlaces P m r p s) := by
  intro p
  induction p with
  | zero => intro s _ h; exact h
  | succ p ih => intro s hp h; exact ih _ (by omega) (JM_place hT hP hm (by omega) hr h)
theorem wPlaces_b {P : Nat → Int} {m r : Nat} : ∀ (p : Nat) (s : WS), p < m → (wPlaces P m r p s).2 = s.2 := by
  intro p
  induction p with
  | zero => intro s _; rfl
  | succ p ih =>
    intro s hp
    show (wPlaces P m r p (wPlace P m r p s)).2 = s.2
    rw [ih _ (by omega)]
    unfold wPlace
    rw [if_neg (show ¬ p + 1 = m by omega)]
    split
    · rfl
    · split <;> rfl
/-- all places: one bucket at most is thrown -/
theorem wPlaces_t {P : Nat → Int} {m r : Nat} (s : WS) : (wPlaces P m r m s).2 = s.2 ∨ (wPlaces P m r m s).2 = uI s.2 r (s.2 r + 1) := by
  cases m with
  | zero => exact Or.inl rfl
  | succ m =>
    show (wPlaces P (m + 1) r m (wPlace P (m + 1) r m s)).2 = s.2 ∨ (wPlaces P (m + 1) r m (wPlace P (m + 1) r m s)).2 = _
    rw [wPlaces_b m _ (by omega)]
    unfold wPlace
    split
    · exact Or.inl rfl
    · rw [if_pos rfl]
      exact Or.inr rfl
theorem JM_take {m : Nat} {B T : Int} {s : WS} (hT : 0 ≤ T) (hm : m ≤ 6) (h : JM m B T s) : JM m B T (wTake m s) := by
  obtain ⟨h1, h2, h3, h4⟩ := h
  unfold wTake
  split
  · rename_i c0
    split
    · rename_i c1
      split
      · rename_i c2
        have i0 : ind s.1 0 = 0 := if_pos c1
        refine ⟨fun q hq => ?_, fun q hq hq6 => ?_, fun j hj => ?_, ?_⟩
        · show -1 ≤ uI s.1 0 0 q ∧ uI s.1 0 0 q ≤ T
          by_cases c : q = 0
          · subst c; rw [uI_s]; omega
          · rw [uI_n c]; exact h1 q hq
        · show uI s.1 0 0 q = -1
          rw [uI_n (show q ≠ 0 by omega)]; exact h2 q hq hq6
        · show 0 ≤ uI s.2 0 (s.2 0 - 1) j
          by_cases c : j = 0
          · subst c; rw [uI_s]; omega
          · rw [uI_n c]; exact h3 j hj
        · show sm (uI s.2 0 (s.2 0 - 1)) 23 + sm (ind (uI s.1 0 0)) m = B
          rw [ind_u, sm_u, sm_u, if_pos (show 0 < 23 by decide), if_pos c0, i0, if_neg (show ¬ (0 : Int) = -1 by decide)]
          omega
      · exact ⟨h1, h2, h3, h4⟩
    · exact ⟨h1, h2, h3, h4⟩
  · exact ⟨h1, h2, h3, h4⟩
theorem wTake_b {m : Nat} {s : WS} {j : Nat} (hj : 1 ≤ j) : (wTake m s).2 j = s.2 j := by
  unfold wTake
  split
  · split
    · split
      · exact uI_n (by omega)
      · rfl
    · rfl
  · rfl
theorem wHolds_b : ∀ (c : Nat) (s : WS), (wHolds c s).2 = s.2 := by
  intro c
  induction c with
  | zero => intro s; rfl
  | succ c ih =>
    intro s
    show (wHold c (wHolds c s)).2 = s.2
    unfold wHold
    split
    · exact ih s
    · exact ih s
theorem wHolds_a : ∀ (c : Nat) (s : WS) (q : Nat), (wHolds c s).1 q = if q < c then (if s.1 q = -1 then -1 else s.1 q + 1) else s.1 q := by
  intro c
  induction c with
  | zero => intro s q; rw [if_neg (by omega)]; rfl
  | succ c ih =>
    intro s q
    have e : (wHolds c s).1 c = s.1 c := by rw [ih, if_neg (by omega)]
    show (wHold c (wHolds c s)).1 q = _
    unfold wHold
    rw [e]
    by_cases d : q = c
    · subst d
      rw [if_pos (show q < q + 1 by omega)]
      by_cases f : s.1 q = -1
      · rw [if_pos f, if_pos f, e, f]
      · rw [if_neg f, if_neg f]
        exact uI_s
    · have e2 : (if q < c + 1 then (if s.1 q = -1 then -1 else s.1 q + 1) else s.1 q) = (if q < c then (if s.1 q = -1 then -1 else s.1 q + 1) else s.1 q) := by
        by_cases f : q < c
        · rw [if_pos f, if_pos (by omega)]
        · rw [if_neg f, if_neg (by omega)]
      rw [e2, ← ih]
      split
      · rfl
      · exact uI_n d
theorem sm_congr {f g : Nat → Int} : ∀ n : Nat, (∀ i, i < n → f i = g i) → sm f n = sm g n := by
  intro n
  induction n with
  | zero => intro _; rfl
  | succ n ih =>
    intro h
    show sm f n + f n = sm g n + g n
    rw [ih (fun i hi => h i (by omega)), h n (by omega)]
theorem JM_holds {m : Nat} {B T : Int} {s : WS} (hm : m ≤ 6) (h : JM m B T s) : JM m B (T + 1) (wHolds m s) ∧ (∀ p, p < 6 → (wHolds m s).1 p = -1 ∨ 1 ≤ (wHolds m s).1 p) := by
  obtain ⟨h1, h2, h3, h4⟩ := h
  have ha := wHolds_a m s
  refine ⟨⟨fun q hq => ?_, fun q hq hq6 => ?_, fun j hj => ?_, ?_⟩, fun p hp => ?_⟩
  · have := h1 q hq
    rw [ha q]
    split
    · split <;> omega
    · omega
  · rw [ha q, if_neg (by omega)]
    exact h2 q hq hq6
  · rw [wHolds_b]
    exact h3 j hj
  · rw [wHolds_b, sm_congr m (f := ind (wHolds m s).1) (g := ind s.1) (fun p hp => ?_)]
    · exact h4
    · have := h1 p (by omega)
      unfold ind
      rw [ha p, if_pos hp]
      by_cases c : s.1 p = -1
      · rw [if_pos c, if_pos rfl, if_pos c]
      · rw [if_neg c, if_neg c, if_neg (by omega)]
  · have := h1 p hp
    rw [ha p]
    split
    · split <;> omega
    · exact Or.inl (h2 p (by omega) hp)
theorem wShift_at {b : Nat → Int} {j : Nat} (h1 : 1 ≤ j) (h2 : j < 22) : wShift b j = b (j + 1) := by
  unfold wShift
  rw [if_neg (by omega), if_pos h2]
theorem wShift_sum {b : Nat → Int} : sm (wShift b) 23 = sm b 23 := by
  have e : ∀ n, n < 22 → sm (wShift b) (n + 1) = sm b (n + 2) := by
    intro n
    induction n with
    | zero =>
      intro _
      show 0 + (b 0 + b 1) = 0 + b 0 + b 1
      omega
    | succ n ih =>
      intro hn
      show sm (wShift b) (n + 1) + wShift b (n + 1) = sm b (n + 2) + b (n + 2)
      rw [ih (by omega), wShift_at (by omega) (by omega)]
  exact (congrArg (fun q : Int => q + 0) (e 21 (by omega))).trans (Int.add_zero _)
theorem JM_shift {m : Nat} {B T : Int} {s : WS} (h : JM m B T s) : JM m B T (s.1, wShift s.2) := by
  obtain ⟨h1, h2, h3, h4⟩ := h
  refine ⟨h1, h2, fun j hj => ?_, by rw [show (s.1, wShift s.2).2 = wShift s.2 from rfl, wShift_sum]; exact h4⟩
  have a0 := h3 0 (by omega)
  have a1 := h3 1 (by omega)
  show 0 ≤ wShift s.2 j
  unfold wShift
  split
  · omega
  · split
    · exact h3 _ (by omega)
    · split
      · omega
      · exact h3 j hj
/-- behind the shift nothing lies at r or behind it -/
theorem JR_shift {r : Nat} {b : Nat → Int} (h : JR r b) : (∀ j, 1 ≤ j → j < 23 → wShift b j ≤ 1) ∧ (∀ j, r ≤ j → 1 ≤ j → j < 23 → wShift b j = 0) := by
  refine ⟨fun j h1 h2 => ?_, fun j hr h1 h2 => ?_⟩
  · by_cases c : j < 22
    · rw [wShift_at h1 c]; exact h.1 _ (by omega) (by omega)
    · unfold wShift
      rw [if_neg (by omega), if_neg c, if_pos (by omega)]
      decide
  · by_cases c : j < 22
    · rw [wShift_at h1 c]; exact h.2 _ (by omega) (by omega)
    · unfold wShift
      rw [if_neg (by omega), if_neg c, if_pos (by omega)]
theorem JR_sec0 {P : Nat → Int} {m r : Nat} {s : WS} (hr1 : 1 ≤ r) (h : (∀ j, 1 ≤ j → j < 23 → s.2 j ≤ 1) ∧ (∀ j, r ≤ j → 1 ≤ j → j < 23 → s.2 j = 0)) (hr : r < 23) : JR r (wSec0 P m r s).2 := by
  unfold wSec0
  rw [wHolds_b]
  refine ⟨fun j h1 h2 => ?_, fun j h1 h2 => ?_⟩
  · rw [wTake_b h1]
    rcases wPlaces_t (P := P) (m := m) (r := r) s with e | e <;> rw [e]
    · exact h.1 j h1 h2
    · by_cases c : j = r
      · subst c; rw [uI_s, h.2 j (Nat.le_refl _) h1 h2]; decide
      · rw [uI_n c]; exact h.1 j h1 h2
  · rw [wTake_b (by omega)]
    rcases wPlaces_t (P := P) (m := m) (r := r) s with e | e <;> rw [e]
    · exact h.2 j (by omega) (by omega) h2
    · rw [uI_n (by omega)]; exact h.2 j (by omega) (by omega) h2
theorem JM_sec0 {P : Nat → Int} {m r : Nat} {B T : Int} {s : WS} (hT : 0 ≤ T) (hP : ∀ q, q < 6 → 0 ≤ P q) (hm : m ≤ 6) (hr : r < 23) (h : JM m B T s) : JM m B (T + 1) (wSec0 P m r s) ∧ (∀ p, p < 6 → (wSec0 P m r s).1 p = -1 ∨ 1 ≤ (wSec0 P m r s).1 p) :=
  JM_holds hm (JM_take hT hm (JM_places hT hP hm hr m _ (Nat.le_refl _) h))
def w0 (B : Int) : WS := (fun p => if p < 6 then -1 else 0, fun j => if j = 0 then B else 0)
def wq (P : Nat → Int) (m r : Nat) (B : Int) : Nat → WS
  | 0 => wSec0 P m r (w0 B)
  | t + 1 => wSec P m r (wq P m r B t)
def JV (m r : Nat) (B T : Int) (s : WS) : Prop := JM m B T s ∧ (∀ p, p < 6 → s.1 p = -1 ∨ 1 ≤ s.1 p) ∧ JR r s.2
theorem w0_b {B : Int} : ∀ n, sm (w0 B).2 (n + 1) = B := by
  intro n
  induction n with
  | zero => show 0 + B = B; omega
  | succ n ih =>
    show sm (w0 B).2 (n + 1) + 0 = B
    rw [ih]; omega
theorem w0_a {B : Int} : ∀ n, n ≤ 6 → sm (ind (w0 B).1) n = 0 := by
  intro n
  induction n with
  | zero => intro _; rfl
  | succ n ih =>
    intro hn
    show sm (ind (w0 B).1) n + ind (w0 B).1 n = 0
    rw [ih (by omega)]
    show 0 + (if (if n < 6 then (-1 : Int) else 0) = -1 then (0 : Int) else 1) = 0
    rw [if_pos (show n < 6 by omega), if_pos rfl]
    rfl
theorem JM_w0 {m : Nat} {B : Int} (hB : 0 ≤ B) (hm : m ≤ 6) : JM m B 0 (w0 B) := by
  refine ⟨fun p hp => ?_, fun p _ hp => if_pos hp, fun j _ => ?_, ?_⟩
  · show -1 ≤ (if p < 6 then (-1 : Int) else 0) ∧ (if p < 6 then (-1 : Int) else 0) ≤ 0
    rw [if_pos hp]; decide
  · show 0 ≤ (if j = 0 then B else 0)
    split <;> omega
  · rw [w0_b 22, w0_a m hm]; omega
theorem JV_wq {P : Nat → Int} {m r : Nat} {B : Int} (hB : 0 ≤ B) (hP : ∀ q, q < 6 → 0 ≤ P q) (hm : m ≤ 6) (hr1 : 1 ≤ r) (hr : r < 22) : ∀ t : Nat, JV m r B (t + 1) (wq P m r B t) := by
  intro t
  induction t with
  | zero =>
    have h := JM_sec0 (P := P) (r := r) (T := 0) (by decide) hP hm (by omega) (JM_w0 hB hm)
    refine ⟨h.1, h.2, JR_sec0 hr1 ⟨fun j h1 h2 => ?_, fun j _ h1 h2 => ?_⟩ (by omega)⟩
    · show (if j = 0 then B else 0) ≤ 1
      rw [if_neg (by omega)]; decide
    · show (if j = 0 then B else 0) = 0
      rw [if_neg (by omega)]
  | succ t ih =>
    have h := JM_sec0 (P := P) (r := r) (s := ((wq P m r B t).1, wShift (wq P m r B t).2)) (by omega) hP hm (by omega) (JM_shift ih.1)
    refine ⟨?_, h.2, JR_sec0 hr1 (JR_shift ih.2.2) (by omega)⟩
    have e := h.1
    show JM m B (((t + 1 : Nat) : Int) + 1) _
    rw [show (((t + 1 : Nat) : Int) + 1) = (t : Int) + 1 + 1 by omega]
    exact e
/-! states by numbers: the pigeonhole -/
def fSt (P : Nat → Int) (s : WS) : Nat → Nat := fun i => if i < 21 then (s.2 (i + 1)).toNat else if s.1 (i - 21) = -1 then 0 else (max (min (s.1 (i - 21)) (P (i - 21))) 1).toNat
theorem fst_h {P : Nat → Int} {s : WS} {p : Nat} : fSt P s (21 + p) = if s.1 p = -1 then 0 else (max (min (s.1 p) (P p)) 1).toNat := by
  unfold fSt
  rw [if_neg (show ¬ 21 + p < 21 by omega), show 21 + p - 21 = p by omega]
theorem fst_r {P : Nat → Int} {s : WS} {j : Nat} (h1 : 1 ≤ j) (h2 : j < 22) : fSt P s (j - 1) = (s.2 j).toNat := by
  unfold fSt
  rw [if_pos (show j - 1 < 21 by omega), show j - 1 + 1 = j by omega]
theorem fst_w {P : Nat → Int} {m r : Nat} {B T : Int} {s : WS} (hP : ∀ q, q < 6 → P q ≤ 6) (h : JV m r B T s) : ∀ i, i < 27 → fSt P s i ≤ rk_w i := by
  intro i hi
  unfold fSt rk_w
  by_cases c : i < 21
  · rw [if_pos c, if_pos c]
    have := h.2.2.1 (i + 1) (by omega) (by omega)
    omega
  · rw [if_neg c, if_neg c]
    have := hP (i - 21) (by omega)
    split <;> omega
theorem many_road {P : Nat → Int} {m r : Nat} {B T : Int} {s : WS} (h : JV m r B T s) : ∀ n, n ≤ 21 → (rk_many (fSt P s) n : Int) + s.2 0 ≤ sm s.2 (n + 1) := by
  intro n
  induction n with
  | zero => intro _; show (0 : Int) + s.2 0 ≤ 0 + s.2 0; omega
  | succ n ih =>
    intro hn
    have a := ih (by omega)
    have b := h.1.2.2.1 (n + 1) (by omega)
    show ((rk_many (fSt P s) n + (if fSt P s n = 0 then 0 else 1) : Nat) : Int) + s.2 0 ≤ sm s.2 (n + 1) + s.2 (n + 1)
    have e : fSt P s n = (s.2 (n + 1)).toNat := if_pos (by omega)
    rw [e]
    split <;> omega
theorem many_hand {P : Nat → Int} {m r : Nat} {B T : Int} {s : WS} (h : JV m r B T s) : ∀ q, q ≤ 6 → (rk_many (fSt P s) (21 + q) : Int) = rk_many (fSt P s) 21 + sm (ind s.1) q := by
  intro q
  induction q with
  | zero => intro _; show (rk_many (fSt P s) 21 : Int) = rk_many (fSt P s) 21 + 0; omega
  | succ q ih =>
    intro hq
    have a := ih (by omega)
    show ((rk_many (fSt P s) (21 + q) + (if fSt P s (21 + q) = 0 then 0 else 1) : Nat) : Int) = _ + (sm (ind s.1) q + ind s.1 q)
    have e : fSt P s (21 + q) = if s.1 q = -1 then 0 else (max (min (s.1 q) (P q)) 1).toNat := fst_h
    have e2 : ind s.1 q = if s.1 q = -1 then 0 else 1 := rfl
    rw [e, e2]
    by_cases c : s.1 q = -1
    · rw [if_pos c, if_pos c, if_pos rfl]; omega
    · rw [if_neg c, if_neg c, if_neg (by omega)]; omega
theorem ind_tail {m r : Nat} {B T : Int} {s : WS} (h : JV m r B T s) : ∀ q, m + q ≤ 6 → sm (ind s.1) (m + q) = sm (ind s.1) m := by
  intro q
  induction q with
  | zero => intro _; rfl
  | succ q ih =>
    intro hq
    show sm (ind s.1) (m + q) + ind s.1 (m + q) = _
    rw [ih (by omega), show ind s.1 (m + q) = 0 from if_pos (h.1.2.1 (m + q) (by omega) (by omega))]
    omega
theorem many_le {P : Nat → Int} {m r : Nat} {B T : Int} {s : WS} (hm : m ≤ 6) (hB : B ≤ 8) (h : JV m r B T s) : rk_many (fSt P s) 27 ≤ 8 := by
  have a := many_road (P := P) h 21 (by omega)
  have b := many_hand (P := P) h 6 (by omega)
  have c := ind_tail h (6 - m) (by omega)
  rw [show m + (6 - m) = 6 by omega] at c
  have d := h.1.2.2.2
  have e0 := h.1.2.2.1 0 (by omega)
  have e22 := h.1.2.2.1 22 (by omega)
  have f : sm s.2 23 = sm s.2 22 + s.2 22 := rfl
  rw [show 21 + 6 = 27 from rfl] at b
  rw [show 21 + 1 = 22 from rfl] at a
  omega
theorem RLk_of_rank {P : Nat → Int} {m r : Nat} {B T T' : Int} {s t : WS} (hm : m ≤ 6) (hr : r < 22) (hP : ∀ q, q < 6 → 0 ≤ P q ∧ P q ≤ 6) (hs : JV m r B T s) (ht : JV m r B T' t) (e : ∀ i, i < 27 → fSt P s i = fSt P t i) : RLk P s t := by
  have hb : ∀ j, 1 ≤ j → j < 23 → s.2 j = t.2 j := by
    intro j h1 h2
    by_cases c : j < 22
    · have e1 := e (j - 1) (by omega)
      rw [fst_r h1 c, fst_r h1 c] at e1
      have a1 := hs.1.2.2.1 j h2
      have a2 := ht.1.2.2.1 j h2
      omega
    · rw [hs.2.2.2 j (by omega) h2, ht.2.2.2 j (by omega) h2]
  have ha : ∀ p, p < 6 → (s.1 p = -1 ↔ t.1 p = -1) ∧ min (s.1 p) (P p) = min (t.1 p) (P p) := by
    intro p hp
    have e1 := e (21 + p) (by omega)
    rw [fst_h, fst_h] at e1
    have a1 := hs.2.1 p hp
    have a2 := ht.2.1 p hp
    have a3 := hP p hp
    by_cases c : s.1 p = -1
    · rw [if_pos c] at e1
      by_cases d : t.1 p = -1
      · exact ⟨⟨fun _ => d, fun _ => c⟩, by rw [c, d]⟩
      · rw [if_neg d] at e1; omega
    · rw [if_neg c] at e1
      by_cases d : t.1 p = -1
      · rw [if_pos d] at e1; omega
      · rw [if_neg d] at e1
        exact ⟨⟨fun x => absurd x c, fun x => absurd x d⟩, by omega⟩
  have hi : sm (ind s.1) m = sm (ind t.1) m := sm_congr m (fun p hp => by
    have := (ha p (by omega)).1
    unfold ind
    by_cases c : s.1 p = -1
    · rw [if_pos c, if_pos (this.mp c)]
    · rw [if_neg c, if_neg (fun x => c (this.mpr x))])
  have h0 : s.2 0 = t.2 0 := by
    have k : ∀ n, n ≤ 22 → sm s.2 (n + 1) - s.2 0 = sm t.2 (n + 1) - t.2 0 := by
      intro n
      induction n with
      | zero => intro _; show 0 + s.2 0 - s.2 0 = 0 + t.2 0 - t.2 0; omega
      | succ n ih =>
        intro hn
        have a := ih (by omega)
        have b := hb (n + 1) (by omega) (by omega)
        show sm s.2 (n + 1) + s.2 (n + 1) - s.2 0 = sm t.2 (n + 1) + t.2 (n + 1) - t.2 0
        omega
    have a := k 22 (by omega)
    have b := hs.1.2.2.2
    have c := ht.1.2.2.2
    rw [show 22 + 1 = 23 from rfl] at a
    omega
  refine ⟨fun p hp => ⟨(ha p hp).2, (hs.1.1 p hp).1, (ht.1.1 p hp).1⟩, fun j hj => ?_⟩
  by_cases c : j = 0
  · subst c; exact h0
  · exact hb j (by omega) hj
theorem rk_29 : rk_c 27 8 < 2 ^ 29 := by decide +kernel
/-- states come again -/
theorem wq_cycle {P : Nat → Int} {m r : Nat} {B : Int} (hB : 0 ≤ B ∧ B ≤ 8) (hP : ∀ q, q < 6 → 0 ≤ P q ∧ P q ≤ 6) (hm : m ≤ 6) (hr1 : 1 ≤ r) (hr : r < 22) : ∃ mu lam : Nat, 1 ≤ lam ∧ mu + lam < 2 ^ 29 ∧ ∀ t, mu ≤ t → RLk P (wq P m r B t) (wq P m r B (t + lam)) := by
  have hV := JV_wq (P := P) (m := m) (r := r) hB.1 (fun q hq => (hP q hq).1) hm hr1 hr
  have hw : ∀ t, ∀ i, i < 27 → fSt P (wq P m r B t) i ≤ rk_w i := fun t => fst_w (fun q hq => (hP q hq).2) (hV t)
  have hn : ∀ t, rk_many (fSt P (wq P m r B t)) 27 ≤ 8 := fun t => many_le hm hB.2 (hV t)
  obtain ⟨i, j, h1, h2, h3⟩ := pg_hole (rk_c 27 8) (fun t => rk_r (fSt P (wq P m r B t)) 27 8) (fun t _ => rk_lt _ 27 8 (hw t) (hn t))
  have e := rk_inj _ _ 27 8 (hw i) (hw j) (hn i) (hn j) h3
  have h29 := rk_29
  refine ⟨i, j - i, by omega, by omega, fun t ht => ?_⟩
  obtain ⟨k, rfl⟩ := Nat.exists_eq_add_of_le ht
  clear ht
  induction k with
  | zero =>
    show RLk P (wq P m r B i) (wq P m r B (i + (j - i)))
    rw [show i + (j - i) = j by omega]
    exact RLk_of_rank hm hr hP (hV i) (hV j) e
  | succ k ih =>
    rw [show i + (k + 1) + (j - i) = (i + k + (j - i)) + 1 by omega]
    show RLk P (wSec P m r (wq P m r B (i + k))) (wSec P m r (wq P m r B (i + k + (j - i))))
    exact RLk_sec (fun q hq => (hP q hq).1) hm (by omega) ih
