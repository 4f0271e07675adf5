/-! The reference's line, by numbers. -/
def AB (k : KY) : WS := (fun p => (k.1 p).toInt, fun j => (k.2.2.1 j).toInt)
def EN (e : EV) (m r : Nat) (P : Nat → Int) : Prop := (∀ j, j < 360 → (eRest e j).toInt = 0) ∧ (∀ p : Nat, p < 6 → (eLine e p).toInt = (p : Int)) ∧ (eMany e).toInt = (m : Int) ∧ m ≤ 6 ∧ (eWorld e (3 : Int32).toNatClampNeg).toInt + 1 = (r : Int) ∧ r < 22 ∧ (∀ p, p < 6 → (ePace e p).toInt = P p)
theorem en_rest {e : EV} {m r : Nat} {P : Nat → Int} (h : EN e m r P) {x n : Int32} (hx : 0 ≤ x.toInt ∧ x.toInt ≤ 5) (hn : 0 ≤ n.toInt) : zRest e x n = 0 := by
  unfold zRest
  split
  · rename_i c
    have e1 : (6 * n).toInt = 6 * n.toInt := i_mul (by decide) rfl (by omega)
    have e2 : (6 * n + x).toInt = 6 * n.toInt + x.toInt := i_add e1 rfl (by omega)
    rw [if_pos (h.1 _ (nlt ⟨by omega, by omega⟩))]
  · rfl
theorem ab_upd {f : Nat → Int32} {j : Nat} {x : Int32} : (fun q => (upd f j x q).toInt) = uI (fun q => (f q).toInt) j x.toInt := by
  funext q
  unfold upd uI
  split <;> rfl
theorem ab_place {e : EV} {m r p : Nat} {P : Nat → Int} {n : Int32} {k : KY} (h : EN e m r P) (hp : p < m) (hn : 0 ≤ n.toInt) (hb : p + 1 = m → (k.2.2.1 r).toInt < 2147483647) : AB (zPlace e (nI p) n k) = wPlace P m r p (AB k) := by
  have hE := h
  obtain ⟨h1, h2, h3, h4, h5, h6, h7⟩ := h
  have ep : (nI p).toInt = (p : Int) := nI_toInt (by omega)
  have np : (nI p).toNatClampNeg = p := tnc ep
  have ep1 : (nI p + 1).toInt = ((p + 1 : Nat) : Int) := by
    rw [i_add ep (show (1 : Int32).toInt = 1 by decide) (by omega)]
    omega
  have np1 : (nI p + 1).toNatClampNeg = p + 1 := tnc ep1
  unfold zPlace
  rw [np, np1]
  have ex := h2 p (by omega)
  have nx : (eLine e p).toNatClampNeg = p := tnc ex
  unfold zPlace1
  rw [nx, h7 p (by omega), en_rest hE (by omega) hn]
  by_cases c1 : (k.1 p).toInt < P p
  · rw [if_pos c1]
    exact (if_pos c1).symm
  · rw [if_neg c1, if_pos rfl]
    have ew : wPlace P m r p (AB k) = (if p + 1 = m then (uI (AB k).1 p (-1), uI (AB k).2 r ((AB k).2 r + 1)) else if (AB k).1 (p + 1) = -1 then (uI (uI (AB k).1 (p + 1) 0) p (-1), (AB k).2) else AB k) := if_neg c1
    rw [ew]
    by_cases c2 : p + 1 = m
    · rw [if_pos c2, if_pos (by rw [ep, h3]; omega)]
      have er : (eWorld e (3 : Int32).toNatClampNeg + 1).toInt = (r : Int) := by
        rw [i_add rfl (show (1 : Int32).toInt = 1 by decide) (by omega)]
        exact h5
      have nr : (eWorld e (3 : Int32).toNatClampNeg + 1).toNatClampNeg = r := tnc er
      have eb : (k.2.2.1 r + 1).toInt = (k.2.2.1 r).toInt + 1 := by
        have := i_rng (k.2.2.1 r)
        have := hb c2
        exact i_add rfl (by decide) (by omega)
      show ((fun q => (upd k.1 (eLine e p).toNatClampNeg (-1) q).toInt, fun q => (upd k.2.2.1 (eWorld e (3 : Int32).toNatClampNeg + 1).toNatClampNeg (k.2.2.1 (eWorld e (3 : Int32).toNatClampNeg + 1).toNatClampNeg + 1) q).toInt) : WS) = _
      rw [ab_upd, ab_upd, nx, nr, eb]
      rfl
    · rw [if_neg c2, if_neg (by rw [ep, h3]; omega)]
      have ey := h2 (p + 1) (by omega)
      have ny : (eLine e (p + 1)).toNatClampNeg = p + 1 := tnc ey
      rw [ny, en_rest hE (by omega) hn]
      by_cases c3 : (k.1 (p + 1)).toInt = -1
      · rw [if_pos c3, if_pos rfl, if_pos (show (AB k).1 (p + 1) = -1 from c3)]
        show ((fun q => (upd (upd k.1 (eLine e (p + 1)).toNatClampNeg 0) (eLine e p).toNatClampNeg (-1) q).toInt, fun q => (k.2.2.1 q).toInt) : WS) = _
        rw [ab_upd, ab_upd, nx, ny]
        rfl
      · rw [if_neg c3, if_neg (show ¬ (AB k).1 (p + 1) = -1 from c3)]
theorem ab_places {e : EV} {m r : Nat} {P : Nat → Int} {n : Int32} (h : EN e m r P) (hn : 0 ≤ n.toInt) : ∀ (q : Nat) (k : KY), q ≤ m → (q = m → (k.2.2.1 r).toInt < 2147483647) → AB (zPlaces e n q k) = wPlaces P m r q (AB k) := by
  intro q
  induction q with
  | zero => intro k _ _; rfl
  | succ q ih =>
    intro k hq hb
    show AB (zPlaces e n q (zPlace e (nI q) n k)) = wPlaces P m r q (wPlace P m r q (AB k))
    rw [ih _ (by omega) (fun c => by omega), ab_place h (by omega) hn hb]
theorem ab_shift {b : Nat → Int32} (h : (b 0).toInt + (b 1).toInt ≤ 2147483647 ∧ -2147483648 ≤ (b 0).toInt + (b 1).toInt) : (fun j => (zShift b j).toInt) = wShift (fun j => (b j).toInt) := by
  funext j
  show (if j = 22 then (0 : Int32) else zShN b 22 j).toInt = (if j = 0 then (b 0).toInt + (b 1).toInt else if j < 22 then (b (j + 1)).toInt else if j = 22 then 0 else (b j).toInt)
  by_cases c : j = 22
  · subst c
    rfl
  · rw [if_neg c]
    show (if j = 0 then b 0 + b 1 else if j < 22 then b (j + 1) else b j).toInt = _
    by_cases c0 : j = 0
    · rw [if_pos c0, if_pos c0]
      exact i_add rfl rfl (by omega)
    · rw [if_neg c0, if_neg c0]
      by_cases c1 : j < 22
      · rw [if_pos c1, if_pos c1]
      · rw [if_neg c1, if_neg c1, if_neg c]
theorem ab_take {e : EV} {m r : Nat} {P : Nat → Int} {n : Int32} {k : KY} (h : EN e m r P) (hn : 0 ≤ n.toInt) : AB (zTake e n k) = wTake m (AB k) := by
  have hE := h
  obtain ⟨h1, h2, h3, h4, h5, h6, h7⟩ := h
  have n0 : (0 : Int32).toNatClampNeg = 0 := rfl
  unfold zTake zTake1
  rw [n0]
  have ex := h2 0 (by omega)
  have nx : (eLine e 0).toNatClampNeg = 0 := tnc ex
  rw [nx, en_rest hE (by omega) hn, h3]
  unfold wTake
  by_cases c0 : 0 < m
  · rw [if_pos c0, if_pos (by omega)]
    by_cases c1 : (k.1 0).toInt = -1
    · rw [if_pos c1, if_pos rfl, if_pos (show (AB k).1 0 = -1 from c1)]
      by_cases c2 : 0 < (k.2.2.1 0).toInt
      · rw [if_pos c2, if_pos (show 0 < (AB k).2 0 from c2)]
        have := i_rng (k.2.2.1 0)
        have eb : (k.2.2.1 0 - 1).toInt = (k.2.2.1 0).toInt - 1 := i_sub rfl (by decide) (by omega)
        show ((fun q => (upd k.1 0 0 q).toInt, fun q => (upd k.2.2.1 0 (k.2.2.1 0 - 1) q).toInt) : WS) = _
        rw [ab_upd, ab_upd, eb]
        rfl
      · rw [if_neg c2, if_neg (show ¬ 0 < (AB k).2 0 from c2)]
    · rw [if_neg c1, if_neg (show ¬ (AB k).1 0 = -1 from c1)]
  · rw [if_neg c0, if_neg (by omega)]
theorem ab_holds {e : EV} {m r : Nat} {P : Nat → Int} {n : Int32} {k : KY} (h : EN e m r P) (hn : 0 ≤ n.toInt) (hk : ∀ p, p < 6 → (k.1 p).toInt < 2147483647) : ∀ c : Nat, c ≤ 6 → AB (zHolds e n c k) = wHolds c (AB k) := by
  intro c
  induction c with
  | zero => intro _; rfl
  | succ c ih =>
    intro hc
    have hi := ih (by omega)
    have ex := h.2.1 c (by omega)
    have nx : (eLine e c).toNatClampNeg = c := tnc ex
    have ev : ((zHolds e n c k).1 c).toInt = (k.1 c).toInt := by
      show (AB (zHolds e n c k)).1 c = _
      rw [hi, wHolds_a, if_neg (by omega)]
      rfl
    show AB (zHold1 e n (eLine e c) (zHolds e n c k)) = wHold c (wHolds c (AB k))
    rw [← hi]
    unfold zHold1 wHold
    rw [nx, en_rest h (by omega) hn]
    by_cases c1 : ((zHolds e n c k).1 c).toInt = -1
    · rw [if_pos c1, if_pos (show (AB (zHolds e n c k)).1 c = -1 from c1)]
    · rw [if_neg c1, if_pos rfl, if_neg (show ¬ (AB (zHolds e n c k)).1 c = -1 from c1)]
      have := i_rng ((zHolds e n c k).1 c)
      have := hk c (by omega)
      have eb : ((zHolds e n c k).1 c + 1).toInt = ((zHolds e n c k).1 c).toInt + 1 := i_add rfl (by decide) (by omega)
      show ((fun q => (upd (zHolds e n c k).1 c ((zHolds e n c k).1 c + 1) q).toInt, fun q => ((zHolds e n c k).2.2.1 q).toInt) : WS) = _
      rw [ab_upd, eb]
      rfl
theorem sm_nn {f : Nat → Int} : ∀ n, (∀ j, j < n → 0 ≤ f j) → 0 ≤ sm f n := by
  intro n
  induction n with
  | zero => intro _; exact Int.le_refl _
  | succ n ih =>
    intro h
    have a := ih (fun j hj => h j (by omega))
    have b := h n (by omega)
    show 0 ≤ sm f n + f n
    omega
theorem sm_ge {f : Nat → Int} {i : Nat} : ∀ n, i < n → (∀ j, j < n → 0 ≤ f j) → f i ≤ sm f n := by
  intro n
  induction n with
  | zero => intro h; omega
  | succ n ih =>
    intro hi h
    have b := h n (by omega)
    have c := sm_nn n (fun j hj => h j (by omega))
    show f i ≤ sm f n + f n
    by_cases d : i = n
    · subst d; omega
    · have a := ih (by omega) (fun j hj => h j (by omega))
      omega
theorem JM_b {m : Nat} {B T : Int} {s : WS} (h : JM m B T s) {j : Nat} (hj : j < 23) : 0 ≤ s.2 j ∧ s.2 j ≤ B := by
  have a := sm_ge 23 hj h.2.2.1
  have b := sm_nn (f := ind s.1) m (fun p _ => by unfold ind; split <;> decide)
  have c := h.2.2.2
  exact ⟨h.2.2.1 j hj, by omega⟩
theorem ab_second {e : EV} {m r : Nat} {P : Nat → Int} {B T : Int} {n : Int32} {k : KY} (h : EN e m r P) (hP : ∀ q, q < 6 → 0 ≤ P q) (hn : 0 ≤ n.toInt) (hJ : JM m B T (AB k)) (hT : 0 ≤ T ∧ T ≤ 2147483600) (hB : B ≤ 8) : AB (zSecond e n 0 k) = if 0 < n.toInt then wSec P m r (AB k) else wSec0 P m r (AB k) := by
  have em : (eMany e).toNatClampNeg = m := tnc h.2.2.1
  have hm := h.2.2.2.1
  have hr := h.2.2.2.2.2.1
  have key : ∀ k' : KY, JM m B T (AB k') → AB (zHolds e n m (zTake e n (zPlaces e n m k'))) = wSec0 P m r (AB k') := by
    intro k' hJ'
    have b1 := JM_b hJ' (j := r) (by omega)
    have e1 := ab_places h hn m k' (Nat.le_refl _) (fun _ => by have : (AB k').2 r = (k'.2.2.1 r).toInt := rfl; omega)
    have e2 : AB (zTake e n (zPlaces e n m k')) = wTake m (wPlaces P m r m (AB k')) := by rw [ab_take h hn, e1]
    have j2 := JM_take hT.1 hm (JM_places hT.1 hP hm (by omega : r < 23) m _ (Nat.le_refl _) hJ')
    rw [ab_holds h hn (fun p hp => by
      have a := (j2.1 p hp).2
      rw [← e2] at a
      have : (AB (zTake e n (zPlaces e n m k'))).1 p = ((zTake e n (zPlaces e n m k')).1 p).toInt := rfl
      omega) m hm, e2]
    rfl
  unfold zSecond zMid
  rw [em, if_pos (show (0 : Int32).toInt = 0 by decide)]
  unfold zPre
  by_cases c : 0 < n.toInt
  · rw [if_pos c, if_pos c]
    have b0 := JM_b hJ (j := 0) (by omega)
    have b1 := JM_b hJ (j := 1) (by omega)
    have es : AB (k.1, k.2.1, zShift k.2.2.1, k.2.2.2) = ((AB k).1, wShift (AB k).2) := by
      show ((fun p => (k.1 p).toInt, fun j => (zShift k.2.2.1 j).toInt) : WS) = _
      rw [ab_shift (b := k.2.2.1) (by
        have a0 : (AB k).2 0 = (k.2.2.1 0).toInt := rfl
        have a1 : (AB k).2 1 = (k.2.2.1 1).toInt := rfl
        omega)]
      rfl
    rw [key _ (by rw [es]; exact JM_shift hJ), es]
    rfl
  · rw [if_neg c, if_neg c]
    exact key k hJ
theorem ab_start {b : Int32} : AB (zStart b) = w0 b.toInt := by
  unfold AB zStart w0
  refine Prod.ext ?_ ?_
  · funext p
    show (if p < 6 then (-1 : Int32) else 0).toInt = (if p < 6 then (-1 : Int) else 0)
    split <;> rfl
  · funext j
    show (upd (tr 23 (fun _ => 0)) 0 b j).toInt = if j = 0 then b.toInt else 0
    unfold upd
    by_cases c : j = 0
    · rw [if_pos c, if_pos c]
    · rw [if_neg c, if_neg c]
      unfold tr
      split <;> rfl
theorem ab_to {e : EV} {m r : Nat} {P : Nat → Int} (h : EN e m r P) (hP : ∀ q, q < 6 → 0 ≤ P q) (hr1 : 1 ≤ r) (hB : 0 ≤ (eBuck e).toInt ∧ (eBuck e).toInt ≤ 8) : ∀ t : Nat, t ≤ 1073741825 → AB (zTo e (t + 1)) = wq P m r (eBuck e).toInt t := by
  have hm := h.2.2.2.1
  have hr := h.2.2.2.2.2.1
  have hV := JV_wq (P := P) hB.1 hP hm hr1 hr
  intro t
  induction t with
  | zero =>
    intro _
    show AB (zSecond e (nI 0) 0 (zStart (eBuck e))) = wSec0 P m r (w0 (eBuck e).toInt)
    rw [ab_second (B := (eBuck e).toInt) (T := 0) h hP (by decide) (by rw [ab_start]; exact JM_w0 hB.1 hm) (by decide) hB.2, if_neg (by decide), ab_start]
  | succ t ih =>
    intro ht
    have hi := ih (by omega)
    have en : (nI (t + 1)).toInt = ((t + 1 : Nat) : Int) := nI_toInt (by omega)
    show AB (zSecond e (nI (t + 1)) 0 (zTo e (t + 1))) = wSec P m r (wq P m r (eBuck e).toInt t)
    rw [ab_second (B := (eBuck e).toInt) (T := (t : Int) + 1) h hP (by omega) (by rw [hi]; exact (hV t).1) (by omega) hB.2, if_pos (by omega), hi]
