theorem z0_step {f : Nat → Int32} {x x' w : Int32} (inv : ∀ j : Nat, (j : Int) < x.toInt → (f j).toInt = 0) (hw : w.toInt = 0) (h0 : 0 ≤ x.toInt) (hx : x'.toInt = x.toInt + 1) : ∀ j : Nat, (j : Int) < x'.toInt → (upd f x.toNatClampNeg w j).toInt = 0 := by
  intro j hj
  have e := pcl (x := x) h0
  unfold upd
  by_cases c : j = x.toNatClampNeg
  · rw [if_pos c]; exact hw
  · rw [if_neg c]; exact inv j (by omega)
/-- what is known of the line in layRound -/
def LR (e : EV) (m r : Nat) (P : Nat → Int) (B : Int) (mu lam : Nat) : Prop := EN e m r P ∧ (∀ q, q < 6 → 0 ≤ P q ∧ P q ≤ 6) ∧ B ≤ 8 ∧ 1 ≤ lam ∧ mu + lam < 2 ^ 29 ∧ (∀ t, mu ≤ t → RLk P (wq P m r B t) (wq P m r B (t + lam))) ∧ (∀ t : Nat, JV m r B ((t : Int) + 1) (wq P m r B t)) ∧ (∀ t : Nat, t ≤ 1073741825 → AB (zTo e (t + 1)) = wq P m r B t)
theorem LR_next {e : EV} {m r : Nat} {P : Nat → Int} {B : Int} {mu lam : Nat} (h : LR e m r P B mu lam) {k : KY} {t : Nat} (hk : AB k = wq P m r B t) (ht : t ≤ 2147483000) : AB (zSecond e 1 0 k) = wq P m r B (t + 1) := by
  obtain ⟨h1, h2, h3, h4, h5, h6, h7, h8⟩ := h
  rw [ab_second (n := 1) (B := B) (T := (t : Int) + 1) h1 (fun q hq => (h2 q hq).1) (by decide) (by rw [hk]; exact (h7 t).1) (by omega) h3, if_pos (by decide), hk]
  rfl
def I60 (P : Nat → Int) (m r : Nat) (B : Int) (lam : Nat) (h1 : PH) (x : Int32) : Prop := ∃ t kk : Nat, kk ≤ 29 ∧ x.toInt = 2 ^ kk ∧ (h1.1 96 42).toInt + 2 ^ kk = (t : Int) + 1 ∧ (1 ≤ (h1.1 96 42).toInt ∧ (h1.1 96 42).toInt ≤ 2 ^ kk) ∧ (kk = 29 → (h1.1 96 42).toInt ≤ lam) ∧ AB (kyOf h1) = wq P m r B t ∧ RW P (h1.1 121) (wq P m r B (2 ^ kk - 1)) ∧ RW P (h1.1 122) (wq P m r B t)
theorem I60_init {e : EV} {m r : Nat} {P : Nat → Int} {B : Int} {mu lam : Nat} (h : LR e m r P B mu lam) {h1 : PH} {k : KY} (hR : (h1.1 96 42).toInt = 1) (hk : AB k = wq P m r B 0) (hy : kyOf h1 = zSecond e 1 0 k) (a1 : ∀ j : Nat, j < 6 → h1.1 121 j = zMin (k.1 j) (e.2.1 j)) (a2 : ∀ j : Nat, j < 23 → h1.1 121 (6 + j) = k.2.2.1 j) (b1 : ∀ j : Nat, j < 6 → h1.1 122 j = zMin ((zSecond e 1 0 k).1 j) (e.2.1 j)) (b2 : ∀ j : Nat, j < 23 → h1.1 122 (6 + j) = (zSecond e 1 0 k).2.2.1 j) : I60 P m r B lam h1 1 := by
  have h1' := LR_next h hk (by omega)
  refine ⟨1, 0, by omega, by decide, by rw [hR]; decide, by rw [hR]; decide, fun c => absurd c (by decide), by rw [hy]; exact h1', ?_, ?_⟩
  · exact RW_keep h.1.2.2.2.2.2.2 a1 a2 hk
  · exact RW_keep h.1.2.2.2.2.2.2 b1 b2 h1'
theorem I60_ne {e : EV} {m r : Nat} {P : Nat → Int} {B : Int} {mu lam : Nat} (h : LR e m r P B mu lam) {f g : Nat → Int32} {t kk : Nat} {R : Int} (h3 : R + 2 ^ kk = (t : Int) + 1) (h7 : RW P f (wq P m r B (2 ^ kk - 1))) (h8 : RW P g (wq P m r B t)) (hn : ∃ j : Nat, j < 29 ∧ ¬ f j = g j) : kk = 29 → ¬ R = lam := by
  obtain ⟨k1, k2, k3, k4, k5, k6, k7, k8⟩ := h
  intro c d
  subst c
  obtain ⟨j, hj, hne⟩ := hn
  rw [show (2 : Int) ^ 29 = 536870912 by decide] at h3
  have k5' : mu + lam < 536870912 := k5
  have hr := k6 536870911 (by omega)
  rw [show 536870911 + lam = t by omega] at hr
  exact hne (RW_eq hr h7 h8 j hj)
theorem I60_A {e : EV} {m r : Nat} {P : Nat → Int} {B : Int} {mu lam : Nat} (h : LR e m r P B mu lam) {h1 h2 : PH} {x : Int32} (inv : I60 P m r B lam h1 x) (hn : ∃ j : Nat, j < 29 ∧ ¬ h1.1 121 j = h1.1 122 j) (c : ¬ x.toInt = (h1.1 96 42).toInt) (hy : kyOf h2 = zSecond e 1 0 (kyOf h1)) (a : h2.1 121 = h1.1 121) (b1 : ∀ j : Nat, j < 6 → h2.1 122 j = zMin ((zSecond e 1 0 (kyOf h1)).1 j) (e.2.1 j)) (b2 : ∀ j : Nat, j < 23 → h2.1 122 (6 + j) = (zSecond e 1 0 (kyOf h1)).2.2.1 j) (hR : (h2.1 96 42).toInt = (h1.1 96 42).toInt + 1) : I60 P m r B lam h2 x ∧ x.toInt ≤ 536870912 ∧ (h2.1 96 42).toInt ≤ 536870912 := by
  obtain ⟨t, kk, i1, i2, i3, i4, i5, i6, i7, i8⟩ := inv
  have h6 := I60_ne h i3 i7 i8 hn
  obtain ⟨b0, bA, -⟩ := brent h.2.2.2.1 h.2.2.2.2.1 i1 i2 i3 i4 i5 h6
  obtain ⟨c1, c2⟩ := bA c
  have hp : ∀ k, k ≤ 29 → (2 : Int) ^ k ≤ 536870912 := by decide
  have hk := hp kk i1
  have hs := LR_next h i6 (by omega)
  refine ⟨⟨t + 1, kk, i1, i2, by omega, by omega, fun d => by have := c2 d; omega, by rw [hy]; exact hs, by rw [a]; exact i7, RW_keep h.1.2.2.2.2.2.2 b1 b2 hs⟩, b0, by omega⟩
theorem I60_B {e : EV} {m r : Nat} {P : Nat → Int} {B : Int} {mu lam : Nat} (h : LR e m r P B mu lam) {h1 h2 : PH} {x x' : Int32} (inv : I60 P m r B lam h1 x) (hn : ∃ j : Nat, j < 29 ∧ ¬ h1.1 121 j = h1.1 122 j) (c : x.toInt = (h1.1 96 42).toInt) (hy : kyOf h2 = zSecond e 1 0 (kyOf h1)) (a1 : ∀ j : Nat, j < 6 → h2.1 121 j = zMin ((kyOf h1).1 j) (e.2.1 j)) (a2 : ∀ j : Nat, j < 23 → h2.1 121 (6 + j) = (kyOf h1).2.2.1 j) (b1 : ∀ j : Nat, j < 6 → h2.1 122 j = zMin ((zSecond e 1 0 (kyOf h1)).1 j) (e.2.1 j)) (b2 : ∀ j : Nat, j < 23 → h2.1 122 (6 + j) = (zSecond e 1 0 (kyOf h1)).2.2.1 j) (hR : (h2.1 96 42).toInt = 1) (hx : x'.toInt = x.toInt * 2) : I60 P m r B lam h2 x' ∧ x.toInt ≤ 268435456 := by
  obtain ⟨t, kk, i1, i2, i3, i4, i5, i6, i7, i8⟩ := inv
  have h6 := I60_ne h i3 i7 i8 hn
  obtain ⟨b0, -, bB⟩ := brent h.2.2.2.1 h.2.2.2.2.1 i1 i2 i3 i4 i5 h6
  obtain ⟨c1, c2, c3⟩ := bB c
  have hp : ∀ k, k ≤ 29 → (2 : Int) ^ k ≤ 536870912 := by decide
  have hk := hp kk i1
  have hs := LR_next h i6 (by omega)
  have e1 : ((2 ^ kk : Nat) : Int) = (2 : Int) ^ kk := by rw [Int.natCast_pow]; rfl
  have e2 : (2 : Int) ^ (kk + 1) = 2 ^ kk * 2 := Int.pow_succ _ _
  have e3 : 2 ^ (kk + 1) = 2 ^ kk * 2 := Nat.pow_succ _ _
  have et : 2 ^ (kk + 1) - 1 = t := by omega
  have hl := h.2.2.2.1
  refine ⟨⟨t + 1, kk + 1, c1, by rw [hx]; exact c2, by omega, by omega, fun d => by omega, by rw [hy]; exact hs, ?_, RW_keep h.1.2.2.2.2.2.2 b1 b2 hs⟩, c3⟩
  rw [et]
  exact RW_keep h.1.2.2.2.2.2.2 a1 a2 i6
theorem I60_exit {e : EV} {m r : Nat} {P : Nat → Int} {B : Int} {mu lam : Nat} (h : LR e m r P B mu lam) {h1 : PH} {x : Int32} (inv : I60 P m r B lam h1 x) (ha : ∀ j : Nat, j < 29 → h1.1 121 j = h1.1 122 j) : ∃ s L : Nat, (h1.1 96 42).toInt = (L : Int) ∧ 1 ≤ L ∧ s + L ≤ 1073741824 ∧ RLk P (wq P m r B s) (wq P m r B (s + L)) := by
  obtain ⟨t, kk, i1, i2, i3, i4, i5, i6, i7, i8⟩ := inv
  have hp : ∀ k, k ≤ 29 → (2 : Int) ^ k ≤ 536870912 := by decide
  have hk := hp kk i1
  have e1 : ((2 ^ kk : Nat) : Int) = (2 : Int) ^ kk := by rw [Int.natCast_pow]; rfl
  have h7 := h.2.2.2.2.2.2.1
  refine ⟨2 ^ kk - 1, (h1.1 96 42).toInt.toNat, by omega, by omega, by omega, ?_⟩
  rw [show 2 ^ kk - 1 + (h1.1 96 42).toInt.toNat = t by omega]
  exact RLk_of_RW (fun p hp => ((h7 _).1.1 p hp).1) (fun p hp => ((h7 _).1.1 p hp).1) i7 i8 ha
def I160 (P : Nat → Int) (m r : Nat) (B : Int) (s L : Nat) (h1 : PH) : Prop := ∃ i : Nat, (h1.1 96 41).toInt = (i : Int) ∧ i ≤ s ∧ RW P (h1.1 121) (wq P m r B i) ∧ RW P (h1.1 122) (wq P m r B (L + i))
theorem I160_init {e : EV} {m r : Nat} {P : Nat → Int} {B : Int} {mu lam : Nat} (h : LR e m r P B mu lam) {s L : Nat} {h1 : PH} (hL : s + L ≤ 1073741824) (hR : (h1.1 96 41).toInt = 0) {k k' : KY} (hk : AB k = wq P m r B 0) (hk' : AB k' = wq P m r B L) (a1 : ∀ j : Nat, j < 6 → h1.1 121 j = zMin (k.1 j) (e.2.1 j)) (a2 : ∀ j : Nat, j < 23 → h1.1 121 (6 + j) = k.2.2.1 j) (b1 : ∀ j : Nat, j < 6 → h1.1 122 j = zMin (k'.1 j) (e.2.1 j)) (b2 : ∀ j : Nat, j < 23 → h1.1 122 (6 + j) = k'.2.2.1 j) : I160 P m r B s L h1 :=
  ⟨0, hR, Nat.zero_le _, RW_keep h.1.2.2.2.2.2.2 a1 a2 hk, RW_keep h.1.2.2.2.2.2.2 b1 b2 hk'⟩
theorem I160_next {e : EV} {m r : Nat} {P : Nat → Int} {B : Int} {mu lam : Nat} (h : LR e m r P B mu lam) {s L : Nat} {h1 h2 : PH} (hsl : RLk P (wq P m r B s) (wq P m r B (s + L))) (inv : I160 P m r B s L h1) (hn : ∃ j : Nat, j < 29 ∧ ¬ h1.1 121 j = h1.1 122 j) {k k' : KY} {f g : Nat → Int32} (hf : f = h1.1 121) (hg : g = h1.1 122) (s1 : ∀ j : Nat, j < 6 → k.1 j = f j) (s2 : ∀ j : Nat, j < 23 → k.2.2.1 j = f (6 + j)) (a1 : ∀ j : Nat, j < 6 → h2.1 121 j = zMin ((zSecond e 1 0 k).1 j) (e.2.1 j)) (a2 : ∀ j : Nat, j < 23 → h2.1 121 (6 + j) = (zSecond e 1 0 k).2.2.1 j)
    (t1 : ∀ j : Nat, j < 6 → k'.1 j = g j) (t2 : ∀ j : Nat, j < 23 → k'.2.2.1 j = g (6 + j)) (b1 : ∀ j : Nat, j < 6 → h2.1 122 j = zMin ((zSecond e 1 0 k').1 j) (e.2.1 j)) (b2 : ∀ j : Nat, j < 23 → h2.1 122 (6 + j) = (zSecond e 1 0 k').2.2.1 j) (hR : (h2.1 96 41).toInt = (h1.1 96 41).toInt + 1) : I160 P m r B s L h2 ∧ (h1.1 96 41).toInt + 1 ≤ s := by
  obtain ⟨i, i1, i2, i3, i4⟩ := inv
  obtain ⟨k1, k2, k3, k4, k5, k6, k7, k8⟩ := h
  subst hf hg
  have hne : i ≠ s := by
    intro c
    subst c
    obtain ⟨j, hj, hq⟩ := hn
    rw [Nat.add_comm L i] at i4
    exact hq (RW_eq hsl i3 i4 j hj)
  have n1 := st_step k1 k2 k3 (k7 i) i3 s1 s2 a1 a2
  have n2 := st_step k1 k2 k3 (k7 (L + i)) i4 t1 t2 b1 b2
  exact ⟨⟨i + 1, by omega, by omega, n1, n2⟩, by omega⟩
theorem m160 {s : Nat} {a b : Int} {n : Nat} (hz : ((s : Int) - a).toNat < n + 1) (hb : b = a + 1) (hs : a + 1 ≤ s) : ((s : Int) - b).toNat < n := by omega
