/-! The reference's line, by numbers. -/
def AB (k : KY) : WS := (fun p => (k.1 p).toInt, fun j => (k.2.2.1 j).toInt)
def EN (e : EV) (m r : Nat) (P : Nat → Int) : Prop := (∀ j, j < 360 → (eRest e j).toInt = 0) ∧ (∀ p : Nat, p < 6 → (eLine e p).toInt = (p : Int)) ∧ (eMany e).toInt = (m : Int) ∧ m ≤ 6 ∧ (eWorld e (3 : Int32).toNatClampNeg).toInt + 1 = (r : Int) ∧ r < 22 ∧ (∀ p, p < 6 → (ePace e p).toInt = P p)
theorem en_rest {e : EV} {m r : Nat} {P : Nat → Int} (h : EN e m r P) {x n : Int32} (hx : 0 ≤ x.toInt ∧ x.toInt ≤ 5) (hn : 0 ≤ n.toInt) : zRest e x n = 0 := by
  unfold zRest
  split
  · rename_i c
    have e1 : (6 * n).toInt = 6 * n.toInt := i_mul (by decide) rfl (by omega)
    have e2 : (6 * n + x).toInt = 6 * n.toInt + x.toInt := i_add e1 rfl (by omega)
    rw [if_pos (h.1 _ (nlt ⟨by omega, by omega⟩))]
  · rfl
theorem ab_upd {f : Nat → Int32} {j : Nat} {x : Int32} : (fun q => (upd f j x q).toInt) = uI (fun q => (f q).toInt) j x.toInt := by
  funext q
  unfold upd uI
  split <;> rfl
theorem ab_place {e : EV} {m r p : Nat} {P : Nat → Int} {n : Int32} {k : KY} (h : EN e m r P) (hp : p < m) (hn : 0 ≤ n.toInt) (hb : p + 1 = m → (k.2.2.1 r).toInt < 2147483647) : AB (zPlace e (nI p) n k) = wPlace P m r p (AB k) := by
  have hE := h
  obtain ⟨h1, h2, h3, h4, h5, h6, h7⟩ := h
  have ep : (nI p).toInt = (p : Int) := nI_toInt (by omega)
  have np : (nI p).toNatClampNeg = p := tnc ep
  have ep1 : (nI p + 1).toInt = ((p + 1 : Nat) : Int) := by
    rw [i_add ep (show (1 : Int32).toInt = 1 by decide) (by omega)]
    omega
  have np1 : (nI p + 1).toNatClampNeg = p + 1 := tnc ep1
  unfold zPlace
  rw [np, np1]
  have ex := h2 p (by omega)
  have nx : (eLine e p).toNatClampNeg = p := tnc ex
  unfold zPlace1
  rw [nx, h7 p (by omega), en_rest hE (by omega) hn]
  by_cases c1 : (k.1 p).toInt < P p
  · rw [if_pos c1]
    exact (if_pos c1).symm
  · rw [if_neg c1, if_pos rfl]
    have ew : wPlace P m r p (AB k) = (if p + 1 = m then (uI (AB k).1 p (-1), uI (AB k).2 r ((AB k).2 r + 1)) else if (AB k).1 (p + 1) = -1 then (uI (uI (AB k).1 (p + 1) 0) p (-1), (AB k).2) else AB k) := if_neg c1
    rw [ew]
    by_cases c2 : p + 1 = m
    · rw [if_pos c2, if_pos (by rw [ep, h3]; omega)]
      have er : (eWorld e (3 : Int32).toNatClampNeg + 1).toInt = (r : Int) := by
        rw [i_add rfl (show (1 : Int32).toInt = 1 by decide) (by omega)]
        exact h5
      have nr : (eWorld e (3 : Int32).toNatClampNeg + 1).toNatClampNeg = r := tnc er
      have eb : (k.2.2.1 r + 1).toInt = (k.2.2.1 r).toInt + 1 := by
        have := i_rng (k.2.2.1 r)
        have := hb c2
        exact i_add rfl (by decide) (by omega)
      show ((fun q => (upd k.1 (eLine e p).toNatClampNeg (-1) q).toInt, fun q => (upd k.2.2.1 (eWorld e (3 : Int32).toNatClampNeg + 1).toNatClampNeg (k.2.2.1 (eWorld e (3 : Int32).toNatClampNeg + 1).toNatClampNeg + 1) q).toInt) : WS) = _
      rw [ab_upd, ab_upd, nx, nr, eb]
      rfl
    · rw [if_neg c2, if_neg (by rw [ep, h3]; omega)]
      have ey := h2 (p + 1) (by omega)
      have ny : (eLine e (p + 1)).toNatClampNeg = p + 1 := tnc ey
      rw [ny, en_rest hE (by omega) hn]
      by_cases c3 : (k.1 (p + 1)).toInt = -1
      · rw [if_pos c3, if_pos rfl, if_pos (show (AB k).1 (p + 1) = -1 from c3)]
        show ((fun q => (upd (upd k.1 (eLine e (p + 1)).toNatClampNeg 0) (eLine e p).toNatClampNeg (-1) q).toInt, fun q => (k.2.2.1 q).toInt) : WS) = _
        rw [ab_upd, ab_upd, nx, ny]
        rfl
      · rw [if_neg c3, if_neg (show ¬ (AB k).1 (p + 1) = -1 from c3)]
theorem ab_places {e : EV} {m r : Nat} {P : Nat → Int} {n : Int32} (h : EN e m r P) (hn : 0 ≤ n.toInt) : ∀ (q : Nat) (k : KY), q ≤ m → (q = m → (k.2.2.1 r).toInt < 2147483647) → AB (zPlaces e n q k) = wPlaces P m r q (AB k) := by
  intro q
  induction q with
  | zero => intro k _ _; rfl
  | succ q ih =>
    intro k hq hb
    show AB (zPlaces e n q (zPlace e (nI q) n k)) = wPlaces P m r q (wPlace P m r q (AB k))
    rw [ih _ (by omega) (fun c => by omega), ab_place h (by omega) hn hb]
theorem ab_shift {b : Nat → Int32} (h : (b 0).toInt + (b 1).toInt ≤ 2147483647 ∧ -2147483648 ≤ (b 0).toInt + (b 1).toInt) : (fun j => (zShift b j).toInt) = wShift (fun j => (b j).toInt) := by
  funext j
  show (if j = 22 then (0 : Int32) else zShN b 22 j).toInt = (if j = 0 then (b 0).toInt + (b 1).toInt else if j < 22 then (b (j + 1)).toInt else if j = 22 then 0 else (b j).toInt)
  by_cases c : j = 22
  · subst c
    rfl
  · rw [if_neg c]
    show (if j = 0 then b 0 + b 1 else if j < 22 then b (j + 1) else b j).toInt = _
    by_cases c0 : j = 0
    · rw [if_pos c0, if_pos c0]
      exact i_add rfl rfl (by omega)
    · rw [if_neg c0, if_neg c0]
      by_cases c1 : j < 22
      · rw [if_pos c1, if_pos c1]
      · rw [if_neg c1, if_neg c1, if_neg c]
theorem ab_take {e : EV} {m r : Nat} {P : Nat → Int} {n : Int32} {k : KY} (h : EN e m r P) (hn : 0 ≤ n.toInt) : AB (zTake e n k) = wTake m (AB k) := by
  have hE := h
  obtain ⟨h1, h2, h3, h4, h5, h6, h7⟩ := h
  have n0 : (0 : Int32).toNatClampNeg = 0 := rfl
  unfold zTake zTake1
  rw [n0]
  have ex := h2 0 (by omega)
  have nx : (eLine e 0).toNatClampNeg = 0 := tnc ex
  rw [nx, en_rest hE (by omega) hn, h3]
  unfold wTake
  by_cases c0 : 0 < m
  · rw [if_pos c0, if_pos (by omega)]
    by_cases c1 : (k.1 0).toInt = -1
    · rw [if_pos c1, if_pos rfl, if_pos (show (AB k).1 0 = -1 from c1)]
      by_cases c2 : 0 < (k.2.2.1 0).toInt
      · rw [if_pos c2, if_pos (show 0 < (AB k).2 0 from c2)]
        have := i_rng (k.2.2.1 0)
        have eb : (k.2.2.1 0 - 1).toInt = (k.2.2.1 0).toInt - 1 := i_sub rfl (by decide) (by omega)
        show ((fun q => (upd k.1 0 0 q).toInt, fun q => (upd k.2.2.1 0 (k.2.2.1 0 - 1) q).toInt) : WS) = _
        rw [ab_upd, ab_upd, eb]
        rfl
      · rw [if_neg c2, if_neg (show ¬ 0 < (AB k).2 0 from c2)]
    · rw [if_neg c1, if_neg (show ¬ (AB k).1 0 = -1 from c1)]
  · rw [if_neg c0, if_neg (by omega)]
theorem ab_holds {e : EV} {m r : Nat} {P : Nat → Int} {n : Int32} {k : KY} (h : EN e m r P) (hn : 0 ≤ n.toInt) (hk : ∀ p, p < 6 → (k.1 p).toInt < 2147483647) : ∀ c : Nat, c ≤ 6 → AB (zHolds e n c k) = wHolds c (AB k) := by
  intro c
  induction c with
  | zero => intro _; rfl
  | succ c ih =>
    intro hc
    have hi := ih (by omega)
    have ex := h.2.1 c (by omega)
    have nx : (eLine e c).toNatClampNeg = c := tnc ex
    have ev : ((zHolds e n c k).1 c).toInt = (k.1 c).toInt := by
      show (AB (zHolds e n c k)).1 c = _
      rw [hi, wHolds_a, if_neg (by omega)]
      rfl
    show AB (zHold1 e n (eLine e c) (zHolds e n c k)) = wHold c (wHolds c (AB k))
    rw [← hi]
    unfold zHold1 wHold
    rw [nx, en_rest h (by omega) hn]
    by_cases c1 : ((zHolds e n c k).1 c).toInt = -1
    · rw [if_pos c1, if_pos (show (AB (zHolds e n c k)).1 c = -1 from c1)]
    · rw [if_neg c1, if_pos rfl, if_neg (show ¬ (AB (zHolds e n c k)).1 c = -1 from c1)]
      have := i_rng ((zHolds e n c k).1 c)
      have := hk c (by omega)
      have eb : ((zHolds e n c k).1 c + 1).toInt = ((zHolds e n c k).1 c).toInt + 1 := i_add rfl (by decide) (by omega)
      show ((fun q => (upd (zHolds e n c k).1 c ((zHolds e n c k).1 c + 1) q).toInt, fun q => ((zHolds e n c k).2.2.1 q).toInt) : WS) = _
      rw [ab_upd, eb]
      rfl
theorem sm_nn {f : Nat → Int} : ∀ n, (∀ j, j < n → 0 ≤ f j) → 0 ≤ sm f n := by
  intro n
  induction n with
  | zero => intro _; exact Int.le_refl _
  | succ n ih =>
    intro h
    have a := ih (fun j hj => h j (by omega))
    have b := h n (by omega)
    show 0 ≤ sm f n + f n
    omega
theorem sm_ge {f : Nat → Int} {i : Nat} : ∀ n, i < n → (∀ j, j < n → 0 ≤ f j) → f i ≤ sm f n := by
  intro n
  induction n with
  | zero => intro h; omega
  | succ n ih =>
    intro hi h
    have b := h n (by omega)
    have c := sm_nn n (fun j hj => h j (by omega))
    show f i ≤ sm f n + f n
    by_cases d : i = n
    · subst d; omega
    · have a := ih (by omega) (fun j hj => h j (by omega))
      omega
theorem JM_b {m : Nat} {B T : Int} {s : WS} (h : JM m B T s) {j : Nat} (hj : j < 23) : 0 ≤ s.2 j ∧ s.2 j ≤ B := by
  have a := sm_ge 23 hj h.2.2.1
  have b := sm_nn (f := ind s.1) m (fun p _ => by unfold ind; split <;> decide)
  have c := h.2.2.2
  exact ⟨h.2.2.1 j hj, by omega⟩
theorem ab_second {e : EV} {m r : Nat} {P : Nat → Int} {B T : Int} {n : Int32} {k : KY} (h : EN e m r P) (hP : ∀ q, q < 6 → 0 ≤ P q) (hn : 0 ≤ n.toInt) (hJ : JM m B T (AB k)) (hT : 0 ≤ T ∧ T ≤ 2147483600) (hB : B ≤ 8) : AB (zSecond e n 0 k) = if 0 < n.toInt then wSec P m r (AB k) else wSec0 P m r (AB k) := by
  have em : (eMany e).toNatClampNeg = m := tnc h.2.2.1
  have hm := h.2.2.2.1
  have hr := h.2.2.2.2.2.1
  have key : ∀ k' : KY, JM m B T (AB k') → AB (zHolds e n m (zTake e n (zPlaces e n m k'))) = wSec0 P m r (AB k') := by
    intro k' hJ'
    have b1 := JM_b hJ' (j := r) (by omega)
    have e1 := ab_places h hn m k' (Nat.le_refl _) (fun _ => by have : (AB k').2 r = (k'.2.2.1 r).toInt := rfl; omega)
    have e2 : AB (zTake e n (zPlaces e n m k')) = wTake m (wPlaces P m r m (AB k')) := by rw [ab_take h hn, e1]
    have j2 := JM_take hT.1 hm (JM_places hT.1 hP hm (by omega : r < 23) m _ (Nat.le_refl _) hJ')
    rw [ab_holds h hn (fun p hp => by
      have a := (j2.1 p hp).2
      rw [← e2] at a
      have : (AB (zTake e n (zPlaces e n m k'))).1 p = ((zTake e n (zPlaces e n m k')).1 p).toInt := rfl
      omega) m hm, e2]
    rfl
  unfold zSecond zMid
  rw [em, if_pos (show (0 : Int32).toInt = 0 by decide)]
  unfold zPre
  by_cases c : 0 < n.toInt
  · rw [if_pos c, if_pos c]
    have b0 := JM_b hJ (j := 0) (by omega)
    have b1 := JM_b hJ (j := 1) (by omega)
    have es : AB (k.1, k.2.1, zShift k.2.2.1, k.2.2.2) = ((AB k).1, wShift (AB k).2) := by
      show ((fun p => (k.1 p).toInt, fun j => (zShift k.2.2.1 j).toInt) : WS) = _
      rw [ab_shift (b := k.2.2.1) (by
        have a0 : (AB k).2 0 = (k.2.2.1 0).toInt := rfl
        have a1 : (AB k).2 1 = (k.2.2.1 1).toInt := rfl
        omega)]
      rfl
    rw [key _ (by rw [es]; exact JM_shift hJ), es]
    rfl
  · rw [if_neg c, if_neg c]
    exact key k hJ
theorem ab_start {b : Int32} : AB (zStart b) = w0 b.toInt := by
  unfold AB zStart w0
  refine Prod.ext ?_ ?_
  · funext p
    show (if p < 6 then (-1 : Int32) else 0).toInt = (if p < 6 then (-1 : Int) else 0)
    split <;> rfl
  · funext j
    show (upd (tr 23 (fun _ => 0)) 0 b j).toInt = if j = 0 then b.toInt else 0
    unfold upd
    by_cases c : j = 0
    · rw [if_pos c, if_pos c]
    · rw [if_neg c, if_neg c]
      unfold tr
      split <;> rfl
theorem ab_to {e : EV} {m r : Nat} {P : Nat → Int} (h : EN e m r P) (hP : ∀ q, q < 6 → 0 ≤ P q) (hr1 : 1 ≤ r) (hB : 0 ≤ (eBuck e).toInt ∧ (eBuck e).toInt ≤ 8) : ∀ t : Nat, t ≤ 1073741825 → AB (zTo e (t + 1)) = wq P m r (eBuck e).toInt t := by
  have hm := h.2.2.2.1
  have hr := h.2.2.2.2.2.1
  have hV := JV_wq (P := P) hB.1 hP hm hr1 hr
  intro t
  induction t with
  | zero =>
    intro _
    show AB (zSecond e (nI 0) 0 (zStart (eBuck e))) = wSec0 P m r (w0 (eBuck e).toInt)
    rw [ab_second (B := (eBuck e).toInt) (T := 0) h hP (by decide) (by rw [ab_start]; exact JM_w0 hB.1 hm) (by decide) hB.2, if_neg (by decide), ab_start]
  | succ t ih =>
    intro ht
    have hi := ih (by omega)
    have en : (nI (t + 1)).toInt = ((t + 1 : Nat) : Int) := nI_toInt (by omega)
    show AB (zSecond e (nI (t + 1)) 0 (zTo e (t + 1))) = wSec P m r (wq P m r (eBuck e).toInt t)
    rw [ab_second (B := (eBuck e).toInt) (T := (t : Int) + 1) h hP (by omega) (by rw [hi]; exact (hV t).1) (by omega) hB.2, if_pos (by omega), hi]

/-! helpers of layRound's methods -/
def AIS (h : PH) : Prop := ∀ j : Nat, j < 6 → (0 ≤ (h.1 103 j).toInt ∧ (h.1 103 j).toInt ≤ 6) ∧ (h.1 105 j).toInt = (j : Int)
theorem AIS_o {h : PH} {k j : Nat} {x : Int32} (hk : 103 ≠ k ∧ 105 ≠ k) (h0 : AIS h) : AIS (wI h k j x) := by
  intro i hi
  rw [wI_ne _ _ _ hk.1, wI_ne _ _ _ hk.2]
  exact h0 i hi
theorem AIS_103 {h : PH} {j : Nat} {x : Int32} (hx : 0 ≤ x.toInt ∧ x.toInt ≤ 6) (h0 : AIS h) : AIS (wI h 103 j x) := by
  intro i hi
  rw [wI_self, wI_ne _ _ _ (show 105 ≠ 103 by decide)]
  refine ⟨?_, (h0 i hi).2⟩
  unfold upd
  split
  · exact hx
  · exact (h0 i hi).1
theorem pace_at {h : PH} (hI : INV h) {i : Int32} {x : Int} (hx : 0 ≤ x ∧ x ≤ 5) (hi : i.toInt = 11 + 2 * x) : 0 ≤ (h.1 97 i.toNatClampNeg).toInt ∧ (h.1 97 i.toNatClampNeg).toInt ≤ 6 := by
  have e : i.toNatClampNeg = 11 + 2 * x.toNat := by
    have := pcl (x := i) (by omega)
    omega
  have hb : ∀ q, q ≤ 5 → bnd 97 (11 + 2 * q) = (0, 6) := by decide
  have := hI.1 97 i.toNatClampNeg
  rw [e, hb x.toNat (by omega)] at this
  rw [e]
  exact this
/-- a row filled one by one -/
theorem ks_step {f F : Nat → Int32} {x x' w : Int32} (inv : ∀ j : Nat, (j : Int) < x.toInt → f j = F j) (hw : w = F x.toNatClampNeg) (h0 : 0 ≤ x.toInt) (hx : x'.toInt = x.toInt + 1) : ∀ j : Nat, (j : Int) < x'.toInt → upd f x.toNatClampNeg w j = F j := by
  intro j hj
  have e := pcl (x := x) h0
  unfold upd
  by_cases c : j = x.toNatClampNeg
  · rw [if_pos c, hw, c]
  · rw [if_neg c]
    exact inv j (by omega)
theorem i6 {i x : Int32} (hi : i.toInt = 6 + x.toInt) (h0 : 0 ≤ x.toInt) : i.toNatClampNeg = 6 + x.toNatClampNeg := by
  have e := pcl (x := x) h0
  have e2 := pcl (x := i) (by omega)
  omega
theorem ks_step2 {f F : Nat → Int32} {x x' i w : Int32} (inv : ∀ j : Nat, (j : Int) < x.toInt → f (6 + j) = F j) (hw : w = F x.toNatClampNeg) (h0 : 0 ≤ x.toInt) (hx : x'.toInt = x.toInt + 1) (hi : i.toInt = 6 + x.toInt) : ∀ j : Nat, (j : Int) < x'.toInt → upd f i.toNatClampNeg w (6 + j) = F j := by
  intro j hj
  have e := pcl (x := x) h0
  rw [i6 hi h0]
  unfold upd
  by_cases c : 6 + j = 6 + x.toNatClampNeg
  · rw [if_pos c, hw, show j = x.toNatClampNeg by omega]
  · rw [if_neg c]
    exact inv j (by omega)
theorem ks_keep {f G : Nat → Int32} {x i w : Int32} (inv : ∀ j : Nat, j < 6 → f j = G j) (h0 : 0 ≤ x.toInt) (hi : i.toInt = 6 + x.toInt) : ∀ j : Nat, j < 6 → upd f i.toNatClampNeg w j = G j := by
  intro j hj
  rw [i6 hi h0]
  unfold upd
  rw [if_neg (by omega)]
  exact inv j hj
theorem al_step {f g : Nat → Int32} {x x' : Int32} (inv : ∀ j : Nat, (j : Int) < x.toInt → f j = g j) (hw : f x.toNatClampNeg = g x.toNatClampNeg) (h0 : 0 ≤ x.toInt) (hx : x'.toInt = x.toInt + 1) : ∀ j : Nat, (j : Int) < x'.toInt → f j = g j := by
  intro j hj
  have e := pcl (x := x) h0
  by_cases c : j = x.toNatClampNeg
  · rw [c]; exact hw
  · exact inv j (by omega)
/-! rows of states -/
def RW (P : Nat → Int) (f : Nat → Int32) (s : WS) : Prop := (∀ j : Nat, j < 6 → (f j).toInt = min (s.1 j) (P j)) ∧ (∀ j : Nat, j < 23 → (f (6 + j)).toInt = s.2 j)
theorem zMin_toInt (x y : Int32) : (zMin x y).toInt = min x.toInt y.toInt := by
  unfold zMin
  split
  · rename_i c
    have := Int32.lt_iff_toInt_lt.mp c
    omega
  · rename_i c
    have : ¬ y.toInt < x.toInt := fun q => c (Int32.lt_iff_toInt_lt.mpr q)
    omega
theorem RW_eq {P : Nat → Int} {f g : Nat → Int32} {s t : WS} (h : RLk P s t) (hf : RW P f s) (hg : RW P g t) : ∀ j : Nat, j < 29 → f j = g j := by
  intro j hj
  apply Int32.toInt_inj.mp
  by_cases c : j < 6
  · rw [hf.1 j c, hg.1 j c]
    exact (h.1 j c).1
  · obtain ⟨i, rfl⟩ : ∃ i, j = 6 + i := ⟨j - 6, by omega⟩
    rw [hf.2 i (by omega), hg.2 i (by omega)]
    exact h.2 i (by omega)
theorem RLk_of_RW {P : Nat → Int} {f g : Nat → Int32} {s t : WS} (hs : ∀ p, p < 6 → -1 ≤ s.1 p) (ht : ∀ p, p < 6 → -1 ≤ t.1 p) (hf : RW P f s) (hg : RW P g t) (e : ∀ j : Nat, j < 29 → f j = g j) : RLk P s t := by
  refine ⟨fun p hp => ⟨?_, hs p hp, ht p hp⟩, fun j hj => ?_⟩
  · rw [← hf.1 p hp, ← hg.1 p hp, e p (by omega)]
  · rw [← hf.2 j hj, ← hg.2 j hj, e (6 + j) (by omega)]
/-- what keepState keeps -/
theorem RW_keep {P : Nat → Int} {e : EV} {k : KY} {f : Nat → Int32} {s : WS} (hP : ∀ p, p < 6 → (ePace e p).toInt = P p) (h1 : ∀ j : Nat, j < 6 → f j = zMin (k.1 j) (e.2.1 j)) (h2 : ∀ j : Nat, j < 23 → f (6 + j) = k.2.2.1 j) (hs : AB k = s) : RW P f s := by
  subst hs
  refine ⟨fun j hj => ?_, fun j hj => ?_⟩
  · rw [h1 j hj, zMin_toInt, ← hP j hj]
    rfl
  · rw [h2 j hj]
    rfl
theorem JM_of_RLk {P : Nat → Int} {m : Nat} {B T : Int} {s t : WS} (hm : m ≤ 6) (hP : ∀ q, q < 6 → 0 ≤ P q ∧ P q ≤ 6) (h : RLk P s t) (ht : JM m B T t) (h6 : ∀ p, p < 6 → s.1 p ≤ 6) : JM m B 6 s := by
  have hi : ∀ p, p < 6 → (s.1 p = -1 ↔ t.1 p = -1) := by
    intro p hp
    have a := h.1 p hp
    have b := hP p hp
    constructor <;> intro c <;> omega
  refine ⟨fun p hp => ⟨(h.1 p hp).2.1, h6 p hp⟩, fun p hp hp6 => (hi p hp6).mpr (ht.2.1 p hp hp6), fun j hj => ?_, ?_⟩
  · rw [h.2 j hj]; exact ht.2.2.1 j hj
  · rw [sm_congr 23 (f := s.2) (g := t.2) (fun j hj => h.2 j hj), sm_congr m (f := ind s.1) (g := ind t.1) (fun p hp => ?_)]
    · exact ht.2.2.2
    · have := hi p (by omega)
      unfold ind
      by_cases c : s.1 p = -1
      · rw [if_pos c, if_pos (this.mp c)]
      · rw [if_neg c, if_neg (fun x => c (this.mpr x))]
/-- a state that was kept, a second on, kept again -/
theorem st_step {e : EV} {m r : Nat} {P : Nat → Int} {B : Int} {i : Nat} {k : KY} {f g : Nat → Int32} (h : EN e m r P) (hP : ∀ q, q < 6 → 0 ≤ P q ∧ P q ≤ 6) (hB : B ≤ 8) (hV : JV m r B ((i : Int) + 1) (wq P m r B i)) (hf : RW P f (wq P m r B i)) (h1 : ∀ j : Nat, j < 6 → k.1 j = f j) (h2 : ∀ j : Nat, j < 23 → k.2.2.1 j = f (6 + j)) (g1 : ∀ j : Nat, j < 6 → g j = zMin ((zSecond e 1 0 k).1 j) (e.2.1 j)) (g2 : ∀ j : Nat, j < 23 → g (6 + j) = (zSecond e 1 0 k).2.2.1 j) : RW P g (wq P m r B (i + 1)) := by
  have hm := h.2.2.2.1
  have hr := h.2.2.2.2.2.1
  have ha : ∀ j, j < 6 → (AB k).1 j = min ((wq P m r B i).1 j) (P j) := fun j hj => by
    show (k.1 j).toInt = _
    rw [h1 j hj]; exact hf.1 j hj
  have hR : RLk P (AB k) (wq P m r B i) := by
    refine ⟨fun p hp => ?_, fun j hj => ?_⟩
    · have a := ha p hp
      have b := hV.1.1 p hp
      have c := hP p hp
      refine ⟨?_, ?_, b.1⟩ <;> omega
    · show (k.2.2.1 j).toInt = _
      rw [h2 j hj]; exact hf.2 j hj
  have hJ := JM_of_RLk hm hP hR hV.1 (fun p hp => by have a := ha p hp; have c := hP p hp; omega)
  have hs := ab_second (n := 1) h (fun q hq => (hP q hq).1) (by decide) hJ (by decide) hB
  rw [if_pos (by decide)] at hs
  have hR2 : RLk P (wSec P m r (AB k)) (wq P m r B (i + 1)) := RLk_sec (fun q hq => (hP q hq).1) hm (by omega) hR
  have hg := RW_keep (e := e) (k := zSecond e 1 0 k) (f := g) h.2.2.2.2.2.2 g1 g2 hs
  refine ⟨fun j hj => ?_, fun j hj => ?_⟩
  · rw [hg.1 j hj]; exact (hR2.1 j hj).1
  · rw [hg.2 j hj]; exact hR2.2 j hj
/-- the search doubles its steps: numbers alone -/
theorem brent {lam mu t kk : Nat} {x R : Int} (hl : 1 ≤ lam) (hm : mu + lam < 2 ^ 29) (h1 : kk ≤ 29) (h2 : x = 2 ^ kk) (h3 : R + 2 ^ kk = (t : Int) + 1) (h4 : 1 ≤ R ∧ R ≤ 2 ^ kk) (h5 : kk = 29 → R ≤ lam) (h6 : kk = 29 → ¬ R = lam) : x ≤ 536870912 ∧ (¬ x = R → R + 1 ≤ 2 ^ kk ∧ (kk = 29 → R + 1 ≤ lam)) ∧ (x = R → kk + 1 ≤ 29 ∧ x * 2 = 2 ^ (kk + 1) ∧ x ≤ 268435456) := by
  have hp : ∀ k, k ≤ 29 → (2 : Int) ^ k ≤ 536870912 := by decide
  have hp2 : ∀ k, k ≤ 28 → (2 : Int) ^ k ≤ 268435456 := by decide
  have a := hp kk h1
  have hm' : mu + lam < 536870912 := hm
  refine ⟨by omega, fun c => ⟨by omega, fun d => ?_⟩, fun c => ?_⟩
  · have := h5 d
    have := h6 d
    omega
  · have hk : kk ≤ 28 := by
      by_cases d : kk = 29
      · have e1 := h5 d
        subst d
        rw [show (2 : Int) ^ 29 = 536870912 by decide] at h2
        omega
      · omega
    refine ⟨by omega, ?_, by rw [h2]; exact hp2 kk hk⟩
    rw [h2, Int.pow_succ]

theorem ais_step {h1 hb hc : PH} {x x' w : Int32} (g1 : hb = wI h1 103 x.toNatClampNeg w) (g2 : hc = wI hb 105 x.toNatClampNeg x) (inv : ∀ j : Nat, (j : Int) < x.toInt → (0 ≤ (h1.1 103 j).toInt ∧ (h1.1 103 j).toInt ≤ 6) ∧ (h1.1 105 j).toInt = (j : Int)) (hw : 0 ≤ w.toInt ∧ w.toInt ≤ 6) (h0 : 0 ≤ x.toInt) (hx : x'.toInt = x.toInt + 1) : ∀ j : Nat, (j : Int) < x'.toInt → (0 ≤ (hc.1 103 j).toInt ∧ (hc.1 103 j).toInt ≤ 6) ∧ (hc.1 105 j).toInt = (j : Int) := by
  intro j hj
  have e := pcl (x := x) h0
  rw [g2, wI_self, wI_ne _ _ _ (show 103 ≠ 105 by decide), g1, wI_self, wI_ne _ _ _ (show 105 ≠ 103 by decide)]
  unfold upd
  by_cases c : j = x.toNatClampNeg
  · rw [if_pos c, if_pos c]
    exact ⟨hw, by omega⟩
  · rw [if_neg c, if_neg c]
    exact inv j (by omega)
noncomputable def bzy (h : PH) (n : Int32) : Int := (ansI d_X9_bits [.inl (ansI d_X9_busyOf [.inr (.inr (.inl 96)), .inl n] h)] h).toInt
noncomputable def fuO (h : PH) : Int := (ansI d_X9_fullOf [.inr (.inr (.inl 96))] h).toInt
theorem crowd_next {h : PH} {x : Int32} {S f : Int} (inv : f = 0 ∨ ∃ m : Int32, x.toInt ≤ m.toInt ∧ m.toInt < S ∧ f ≤ bzy h m) (h0 : 0 ≤ bzy h x) (hlt : bzy h x < f) : ∃ m : Int32, x.toInt + 1 ≤ m.toInt ∧ m.toInt < S ∧ f ≤ bzy h m := by
  rcases inv with c | ⟨m, h1, h2, h3⟩
  · omega
  · refine ⟨m, ?_, h2, h3⟩
    by_cases c : x.toInt = m.toInt
    · have : x = m := Int32.toInt_inj.mp c
      subst this
      omega
    · omega
def evB (e : EV) (b : Int32) : EV := (e.1, e.2.1, e.2.2.1, e.2.2.2.1, e.2.2.2.2.1, e.2.2.2.2.2.1, b, e.2.2.2.2.2.2.2)
theorem ev_19 {h : PH} {x : Int32} : evOf (wI h 96 19 x) = evB (evOf h) x := by
  unfold evOf evB
  rw [wI_is, wI_at (show 18 ≠ 19 by decide), wI_at (show 20 ≠ 19 by decide), wI_ne _ _ _ (show 97 ≠ 96 by decide), wI_ne _ _ _ (show 103 ≠ 96 by decide), wI_ne _ _ _ (show 104 ≠ 96 by decide), wI_ne _ _ _ (show 105 ≠ 96 by decide), wI_ne _ _ _ (show 106 ≠ 96 by decide)]
theorem evB_evB {e : EV} {a b : Int32} : evB (evB e a) b = evB e b := rfl

theorem z0_step {f : Nat → Int32} {x x' w : Int32} (inv : ∀ j : Nat, (j : Int) < x.toInt → (f j).toInt = 0) (hw : w.toInt = 0) (h0 : 0 ≤ x.toInt) (hx : x'.toInt = x.toInt + 1) : ∀ j : Nat, (j : Int) < x'.toInt → (upd f x.toNatClampNeg w j).toInt = 0 := by
  intro j hj
  have e := pcl (x := x) h0
  unfold upd
  by_cases c : j = x.toNatClampNeg
  · rw [if_pos c]; exact hw
  · rw [if_neg c]; exact inv j (by omega)
/-- what is known of the line in layRound -/
def LR (e : EV) (m r : Nat) (P : Nat → Int) (B : Int) (mu lam : Nat) : Prop := EN e m r P ∧ (∀ q, q < 6 → 0 ≤ P q ∧ P q ≤ 6) ∧ B ≤ 8 ∧ 1 ≤ lam ∧ mu + lam < 2 ^ 29 ∧ (∀ t, mu ≤ t → RLk P (wq P m r B t) (wq P m r B (t + lam))) ∧ (∀ t : Nat, JV m r B ((t : Int) + 1) (wq P m r B t)) ∧ (∀ t : Nat, t ≤ 1073741825 → AB (zTo e (t + 1)) = wq P m r B t)
theorem LR_next {e : EV} {m r : Nat} {P : Nat → Int} {B : Int} {mu lam : Nat} (h : LR e m r P B mu lam) {k : KY} {t : Nat} (hk : AB k = wq P m r B t) (ht : t ≤ 2147483000) : AB (zSecond e 1 0 k) = wq P m r B (t + 1) := by
  obtain ⟨h1, h2, h3, h4, h5, h6, h7, h8⟩ := h
  rw [ab_second (n := 1) (B := B) (T := (t : Int) + 1) h1 (fun q hq => (h2 q hq).1) (by decide) (by rw [hk]; exact (h7 t).1) (by omega) h3, if_pos (by decide), hk]
  rfl
def I60 (P : Nat → Int) (m r : Nat) (B : Int) (lam : Nat) (h1 : PH) (x : Int32) : Prop := ∃ t kk : Nat, kk ≤ 29 ∧ x.toInt = 2 ^ kk ∧ (h1.1 96 42).toInt + 2 ^ kk = (t : Int) + 1 ∧ (1 ≤ (h1.1 96 42).toInt ∧ (h1.1 96 42).toInt ≤ 2 ^ kk) ∧ (kk = 29 → (h1.1 96 42).toInt ≤ lam) ∧ AB (kyOf h1) = wq P m r B t ∧ RW P (h1.1 121) (wq P m r B (2 ^ kk - 1)) ∧ RW P (h1.1 122) (wq P m r B t)
theorem I60_init {e : EV} {m r : Nat} {P : Nat → Int} {B : Int} {mu lam : Nat} (h : LR e m r P B mu lam) {h1 : PH} {k : KY} (hR : (h1.1 96 42).toInt = 1) (hk : AB k = wq P m r B 0) (hy : kyOf h1 = zSecond e 1 0 k) (a1 : ∀ j : Nat, j < 6 → h1.1 121 j = zMin (k.1 j) (e.2.1 j)) (a2 : ∀ j : Nat, j < 23 → h1.1 121 (6 + j) = k.2.2.1 j) (b1 : ∀ j : Nat, j < 6 → h1.1 122 j = zMin ((zSecond e 1 0 k).1 j) (e.2.1 j)) (b2 : ∀ j : Nat, j < 23 → h1.1 122 (6 + j) = (zSecond e 1 0 k).2.2.1 j) : I60 P m r B lam h1 1 := by
  have h1' := LR_next h hk (by omega)
  refine ⟨1, 0, by omega, by decide, by rw [hR]; decide, by rw [hR]; decide, fun c => absurd c (by decide), by rw [hy]; exact h1', ?_, ?_⟩
  · exact RW_keep h.1.2.2.2.2.2.2 a1 a2 hk
  · exact RW_keep h.1.2.2.2.2.2.2 b1 b2 h1'
theorem I60_ne {e : EV} {m r : Nat} {P : Nat → Int} {B : Int} {mu lam : Nat} (h : LR e m r P B mu lam) {f g : Nat → Int32} {t kk : Nat} {R : Int} (h3 : R + 2 ^ kk = (t : Int) + 1) (h7 : RW P f (wq P m r B (2 ^ kk - 1))) (h8 : RW P g (wq P m r B t)) (hn : ∃ j : Nat, j < 29 ∧ ¬ f j = g j) : kk = 29 → ¬ R = lam := by
  obtain ⟨k1, k2, k3, k4, k5, k6, k7, k8⟩ := h
  intro c d
  subst c
  obtain ⟨j, hj, hne⟩ := hn
  rw [show (2 : Int) ^ 29 = 536870912 by decide] at h3
  have k5' : mu + lam < 536870912 := k5
  have hr := k6 536870911 (by omega)
  rw [show 536870911 + lam = t by omega] at hr
  exact hne (RW_eq hr h7 h8 j hj)
theorem I60_A {e : EV} {m r : Nat} {P : Nat → Int} {B : Int} {mu lam : Nat} (h : LR e m r P B mu lam) {h1 h2 : PH} {x : Int32} (inv : I60 P m r B lam h1 x) (hn : ∃ j : Nat, j < 29 ∧ ¬ h1.1 121 j = h1.1 122 j) (c : ¬ x.toInt = (h1.1 96 42).toInt) (hy : kyOf h2 = zSecond e 1 0 (kyOf h1)) (a : h2.1 121 = h1.1 121) (b1 : ∀ j : Nat, j < 6 → h2.1 122 j = zMin ((zSecond e 1 0 (kyOf h1)).1 j) (e.2.1 j)) (b2 : ∀ j : Nat, j < 23 → h2.1 122 (6 + j) = (zSecond e 1 0 (kyOf h1)).2.2.1 j) (hR : (h2.1 96 42).toInt = (h1.1 96 42).toInt + 1) : I60 P m r B lam h2 x ∧ x.toInt ≤ 536870912 ∧ (h2.1 96 42).toInt ≤ 536870912 := by
  obtain ⟨t, kk, i1, i2, i3, i4, i5, i6, i7, i8⟩ := inv
  have h6 := I60_ne h i3 i7 i8 hn
  obtain ⟨b0, bA, -⟩ := brent h.2.2.2.1 h.2.2.2.2.1 i1 i2 i3 i4 i5 h6
  obtain ⟨c1, c2⟩ := bA c
  have hp : ∀ k, k ≤ 29 → (2 : Int) ^ k ≤ 536870912 := by decide
  have hk := hp kk i1
  have hs := LR_next h i6 (by omega)
  refine ⟨⟨t + 1, kk, i1, i2, by omega, by omega, fun d => by have := c2 d; omega, by rw [hy]; exact hs, by rw [a]; exact i7, RW_keep h.1.2.2.2.2.2.2 b1 b2 hs⟩, b0, by omega⟩
theorem I60_B {e : EV} {m r : Nat} {P : Nat → Int} {B : Int} {mu lam : Nat} (h : LR e m r P B mu lam) {h1 h2 : PH} {x x' : Int32} (inv : I60 P m r B lam h1 x) (hn : ∃ j : Nat, j < 29 ∧ ¬ h1.1 121 j = h1.1 122 j) (c : x.toInt = (h1.1 96 42).toInt) (hy : kyOf h2 = zSecond e 1 0 (kyOf h1)) (a1 : ∀ j : Nat, j < 6 → h2.1 121 j = zMin ((kyOf h1).1 j) (e.2.1 j)) (a2 : ∀ j : Nat, j < 23 → h2.1 121 (6 + j) = (kyOf h1).2.2.1 j) (b1 : ∀ j : Nat, j < 6 → h2.1 122 j = zMin ((zSecond e 1 0 (kyOf h1)).1 j) (e.2.1 j)) (b2 : ∀ j : Nat, j < 23 → h2.1 122 (6 + j) = (zSecond e 1 0 (kyOf h1)).2.2.1 j) (hR : (h2.1 96 42).toInt = 1) (hx : x'.toInt = x.toInt * 2) : I60 P m r B lam h2 x' ∧ x.toInt ≤ 268435456 := by
  obtain ⟨t, kk, i1, i2, i3, i4, i5, i6, i7, i8⟩ := inv
  have h6 := I60_ne h i3 i7 i8 hn
  obtain ⟨b0, -, bB⟩ := brent h.2.2.2.1 h.2.2.2.2.1 i1 i2 i3 i4 i5 h6
  obtain ⟨c1, c2, c3⟩ := bB c
  have hp : ∀ k, k ≤ 29 → (2 : Int) ^ k ≤ 536870912 := by decide
  have hk := hp kk i1
  have hs := LR_next h i6 (by omega)
  have e1 : ((2 ^ kk : Nat) : Int) = (2 : Int) ^ kk := by rw [Int.natCast_pow]; rfl
  have e2 : (2 : Int) ^ (kk + 1) = 2 ^ kk * 2 := Int.pow_succ _ _
  have e3 : 2 ^ (kk + 1) = 2 ^ kk * 2 := Nat.pow_succ _ _
  have et : 2 ^ (kk + 1) - 1 = t := by omega
  have hl := h.2.2.2.1
  refine ⟨⟨t + 1, kk + 1, c1, by rw [hx]; exact c2, by omega, by omega, fun d => by omega, by rw [hy]; exact hs, ?_, RW_keep h.1.2.2.2.2.2.2 b1 b2 hs⟩, c3⟩
  rw [et]
  exact RW_keep h.1.2.2.2.2.2.2 a1 a2 i6
theorem I60_exit {e : EV} {m r : Nat} {P : Nat → Int} {B : Int} {mu lam : Nat} (h : LR e m r P B mu lam) {h1 : PH} {x : Int32} (inv : I60 P m r B lam h1 x) (ha : ∀ j : Nat, j < 29 → h1.1 121 j = h1.1 122 j) : ∃ s L : Nat, (h1.1 96 42).toInt = (L : Int) ∧ 1 ≤ L ∧ s + L ≤ 1073741824 ∧ RLk P (wq P m r B s) (wq P m r B (s + L)) := by
  obtain ⟨t, kk, i1, i2, i3, i4, i5, i6, i7, i8⟩ := inv
  have hp : ∀ k, k ≤ 29 → (2 : Int) ^ k ≤ 536870912 := by decide
  have hk := hp kk i1
  have e1 : ((2 ^ kk : Nat) : Int) = (2 : Int) ^ kk := by rw [Int.natCast_pow]; rfl
  have h7 := h.2.2.2.2.2.2.1
  refine ⟨2 ^ kk - 1, (h1.1 96 42).toInt.toNat, by omega, by omega, by omega, ?_⟩
  rw [show 2 ^ kk - 1 + (h1.1 96 42).toInt.toNat = t by omega]
  exact RLk_of_RW (fun p hp => ((h7 _).1.1 p hp).1) (fun p hp => ((h7 _).1.1 p hp).1) i7 i8 ha
def I160 (P : Nat → Int) (m r : Nat) (B : Int) (s L : Nat) (h1 : PH) : Prop := ∃ i : Nat, (h1.1 96 41).toInt = (i : Int) ∧ i ≤ s ∧ RW P (h1.1 121) (wq P m r B i) ∧ RW P (h1.1 122) (wq P m r B (L + i))
theorem I160_init {e : EV} {m r : Nat} {P : Nat → Int} {B : Int} {mu lam : Nat} (h : LR e m r P B mu lam) {s L : Nat} {h1 : PH} (hL : s + L ≤ 1073741824) (hR : (h1.1 96 41).toInt = 0) {k k' : KY} (hk : AB k = wq P m r B 0) (hk' : AB k' = wq P m r B L) (a1 : ∀ j : Nat, j < 6 → h1.1 121 j = zMin (k.1 j) (e.2.1 j)) (a2 : ∀ j : Nat, j < 23 → h1.1 121 (6 + j) = k.2.2.1 j) (b1 : ∀ j : Nat, j < 6 → h1.1 122 j = zMin (k'.1 j) (e.2.1 j)) (b2 : ∀ j : Nat, j < 23 → h1.1 122 (6 + j) = k'.2.2.1 j) : I160 P m r B s L h1 :=
  ⟨0, hR, Nat.zero_le _, RW_keep h.1.2.2.2.2.2.2 a1 a2 hk, RW_keep h.1.2.2.2.2.2.2 b1 b2 hk'⟩
theorem I160_next {e : EV} {m r : Nat} {P : Nat → Int} {B : Int} {mu lam : Nat} (h : LR e m r P B mu lam) {s L : Nat} {h1 h2 : PH} (hsl : RLk P (wq P m r B s) (wq P m r B (s + L))) (inv : I160 P m r B s L h1) (hn : ∃ j : Nat, j < 29 ∧ ¬ h1.1 121 j = h1.1 122 j) {k k' : KY} {f g : Nat → Int32} (hf : f = h1.1 121) (hg : g = h1.1 122) (s1 : ∀ j : Nat, j < 6 → k.1 j = f j) (s2 : ∀ j : Nat, j < 23 → k.2.2.1 j = f (6 + j)) (a1 : ∀ j : Nat, j < 6 → h2.1 121 j = zMin ((zSecond e 1 0 k).1 j) (e.2.1 j)) (a2 : ∀ j : Nat, j < 23 → h2.1 121 (6 + j) = (zSecond e 1 0 k).2.2.1 j)
    (t1 : ∀ j : Nat, j < 6 → k'.1 j = g j) (t2 : ∀ j : Nat, j < 23 → k'.2.2.1 j = g (6 + j)) (b1 : ∀ j : Nat, j < 6 → h2.1 122 j = zMin ((zSecond e 1 0 k').1 j) (e.2.1 j)) (b2 : ∀ j : Nat, j < 23 → h2.1 122 (6 + j) = (zSecond e 1 0 k').2.2.1 j) (hR : (h2.1 96 41).toInt = (h1.1 96 41).toInt + 1) : I160 P m r B s L h2 ∧ (h1.1 96 41).toInt + 1 ≤ s := by
  obtain ⟨i, i1, i2, i3, i4⟩ := inv
  obtain ⟨k1, k2, k3, k4, k5, k6, k7, k8⟩ := h
  subst hf hg
  have hne : i ≠ s := by
    intro c
    subst c
    obtain ⟨j, hj, hq⟩ := hn
    rw [Nat.add_comm L i] at i4
    exact hq (RW_eq hsl i3 i4 j hj)
  have n1 := st_step k1 k2 k3 (k7 i) i3 s1 s2 a1 a2
  have n2 := st_step k1 k2 k3 (k7 (L + i)) i4 t1 t2 b1 b2
  exact ⟨⟨i + 1, by omega, by omega, n1, n2⟩, by omega⟩
theorem m160 {s : Nat} {a b : Int} {n : Nat} (hz : ((s : Int) - a).toNat < n + 1) (hb : b = a + 1) (hs : a + 1 ≤ s) : ((s : Int) - b).toNat < n := by omega

/-! a row that is copied into another, place by place -/
def mixR (f g : Nat → Int32) (o p i : Nat) : Nat → Int32 := fun j => if o ≤ j ∧ j < o + i then g (j - o + p) else f j
def mixI (h : PH) (k q o p i : Nat) : PH := cI h k (mixR (h.1 k) (h.1 q) o p i)
theorem mixR_0 {f g : Nat → Int32} {o p : Nat} : mixR f g o p 0 = f := by
  funext j
  unfold mixR
  rw [if_neg (by omega)]
theorem cI_id {h : PH} {k : Nat} : cI h k (h.1 k) = h := by
  unfold cI
  have : rI h.1 k (h.1 k) = h.1 := by
    funext a
    unfold rI
    split
    · rename_i c; rw [c]
    · rfl
  rw [this]
theorem mixI_0 {h : PH} {k q o p : Nat} : mixI h k q o p 0 = h := by
  unfold mixI
  rw [mixR_0, cI_id]
theorem mixI_ne {h : PH} {k q o p i r : Nat} (hr : r ≠ k) : (mixI h k q o p i).1 r = h.1 r := cI_ne h _ hr
theorem mixI_s {h : PH} {k q o p i : Nat} : wI (mixI h k q o p i) k (o + i) (h.1 q (i + p)) = mixI h k q o p (i + 1) := by
  unfold mixI wI
  have e1 : (cI h k (mixR (h.1 k) (h.1 q) o p i)).1 k = mixR (h.1 k) (h.1 q) o p i := cI_self h k _
  have e2 : upd (mixR (h.1 k) (h.1 q) o p i) (o + i) (h.1 q (i + p)) = mixR (h.1 k) (h.1 q) o p (i + 1) := by
    funext j
    unfold upd mixR
    by_cases c : j = o + i
    · rw [if_pos c, if_pos (by omega), show j - o + p = i + p by omega]
    · rw [if_neg c]
      by_cases d : o ≤ j ∧ j < o + i
      · rw [if_pos d, if_pos (by omega)]
      · rw [if_neg d, if_neg (by omega)]
  rw [e1, e2]
  have e3 : ∀ (F : Nat → Nat → Int32) (a b : Nat → Int32), rI (rI F k a) k b = rI F k b := by
    intro F a b
    funext r
    unfold rI
    split <;> rfl
  show (rI (rI h.1 k _) k _, h.2) = (rI h.1 k _, h.2)
  rw [e3]
theorem EX_iff {h h' : PH} (h17 : h'.1 17 = h.1 17) (h29 : h'.1 29 = h.1 29) (h41 : h'.1 41 = h.1 41) (h53 : h'.1 53 = h.1 53) (hx : EX h) (a : EA (h'.1 97) 0) (b0 : EA (h'.1 98) 0) (b1 : EA (h'.1 98) 68) (b2 : EA (h'.1 98) 136) : EX h' := by
  obtain ⟨a1, a2, a3, a4, -⟩ := hx
  unfold EX
  rw [h17, h29, h41, h53]
  exact ⟨a1, a2, a3, a4, a, b0, b1, b2⟩
theorem EA_cpy {f g : Nat → Int32} {o p : Nat} (h : EA g p) (h9 : (g (p + 9)).toInt ≤ 30) (e : ∀ j, j < 68 → f (o + j) = g (p + j)) : EA f o := by
  obtain ⟨h1, h2, h3⟩ := h
  have e0 : f o = g p := e 0 (by omega)
  refine ⟨fun j hj => ?_, ?_, ?_⟩
  · rw [e 9 (by omega)] at hj
    rw [show o + 38 + j = o + (38 + j) by omega, e (38 + j) (by omega), show p + (38 + j) = p + 38 + j by omega]
    exact h1 j hj
  · rw [e 10 (by omega), e0]; exact h2
  · rw [e 5 (by omega), e0]; exact h3
theorem b9868 : ∀ k, k < 3 → ∀ j, j < 68 → bnd 98 (68 * k + j) = bnd 97 j := by decide
theorem bnd_far {k j : Nat} (lo hi : Int) (os : List (Nat × Int × Int)) (hk : BT[k]? = some (lo, hi, os)) (hj : ∀ e ∈ os, e.1 ≠ j) : bnd k j = (lo, hi) := by
  unfold bnd
  rw [hk]
  cases os with
  | nil => rfl
  | cons o os =>
    show (match (o :: os).find? (fun e => e.1 == j) with | some e => e.2 | none => (lo, hi)) = _
    rw [List.find?_eq_none.mpr (fun e he => by simp only [beq_iff_eq]; exact hj e he)]
theorem INV_image {h : PH} (hI : INV h) {k : Nat} (hk : k < 3) : INV (mixI h 98 97 (68 * k) 0 68) := by
  have e97 : (mixI h 98 97 (68 * k) 0 68).1 97 = h.1 97 := mixI_ne (by decide)
  have e98 : (mixI h 98 97 (68 * k) 0 68).1 98 = mixR (h.1 98) (h.1 97) (68 * k) 0 68 := cI_self _ _ _
  have hb9 : (h.1 97 9).toInt ≤ 30 := (hI.1 97 9).2
  refine ⟨IB_cI hI.1 (fun j => ?_), EX_iff (h := h) (mixI_ne (by decide)) (mixI_ne (by decide)) (mixI_ne (by decide)) (mixI_ne (by decide)) hI.2 (by rw [e97]; exact hI.2.2.2.2.2.1) ?_ ?_ ?_⟩
  · unfold mixR
    split
    · rename_i c
      obtain ⟨i, rfl⟩ : ∃ i, j = 68 * k + i := ⟨j - 68 * k, by omega⟩
      rw [b9868 k hk i (by omega), show 68 * k + i - 68 * k + 0 = i by omega]
      exact hI.1 97 i
    · exact hI.1 98 j
  all_goals rw [e98]
  · by_cases c : k = 0
    · subst c
      exact EA_cpy (g := h.1 97) (p := 0) hI.2.2.2.2.2.1 hb9 (fun j hj => by unfold mixR; rw [if_pos (by omega)]; exact congrArg (h.1 97) (by omega))
    · exact EA_cpy (g := h.1 98) (p := 0) hI.2.2.2.2.2.2.1 (hI.1 98 9).2 (fun j hj => by unfold mixR; rw [if_neg (by omega)])
  · by_cases c : k = 1
    · subst c
      exact EA_cpy (g := h.1 97) (p := 0) hI.2.2.2.2.2.1 hb9 (fun j hj => by unfold mixR; rw [if_pos (by omega)]; exact congrArg (h.1 97) (by omega))
    · exact EA_cpy (g := h.1 98) (p := 68) hI.2.2.2.2.2.2.2.1 (hI.1 98 77).2 (fun j hj => by unfold mixR; rw [if_neg (by omega)])
  · by_cases c : k = 2
    · subst c
      exact EA_cpy (g := h.1 97) (p := 0) hI.2.2.2.2.2.1 hb9 (fun j hj => by unfold mixR; rw [if_pos (by omega)]; exact congrArg (h.1 97) (by omega))
    · exact EA_cpy (g := h.1 98) (p := 136) hI.2.2.2.2.2.2.2.2 (hI.1 98 145).2 (fun j hj => by unfold mixR; rw [if_neg (by omega)])
theorem INV_back {h : PH} (hI : INV h) {k : Nat} (hk : k < 3) : INV (mixI h 97 98 0 (68 * k) 68) := by
  have e98 : (mixI h 97 98 0 (68 * k) 68).1 98 = h.1 98 := mixI_ne (by decide)
  have e97 : (mixI h 97 98 0 (68 * k) 68).1 97 = mixR (h.1 97) (h.1 98) 0 (68 * k) 68 := cI_self _ _ _
  have ea : EA (h.1 98) (68 * k) := by
    rcases (show k = 0 ∨ k = 1 ∨ k = 2 by omega) with c | c | c <;> subst c
    · exact hI.2.2.2.2.2.2.1
    · exact hI.2.2.2.2.2.2.2.1
    · exact hI.2.2.2.2.2.2.2.2
  have h9 : (h.1 98 (68 * k + 9)).toInt ≤ 30 := by
    have := hI.1 98 (68 * k + 9)
    rw [b9868 k hk 9 (by omega)] at this
    exact this.2
  refine ⟨IB_cI hI.1 (fun j => ?_), EX_iff (h := h) (mixI_ne (by decide)) (mixI_ne (by decide)) (mixI_ne (by decide)) (mixI_ne (by decide)) hI.2 ?_ (by rw [e98]; exact hI.2.2.2.2.2.2.1) (by rw [e98]; exact hI.2.2.2.2.2.2.2.1) (by rw [e98]; exact hI.2.2.2.2.2.2.2.2)⟩
  · unfold mixR
    split
    · rename_i c
      rw [← b9868 k hk j (by omega), show j - 0 + 68 * k = 68 * k + j by omega]
      exact hI.1 98 _
    · exact hI.1 97 j
  · rw [e97]
    exact EA_cpy (g := h.1 98) (p := 68 * k) ea h9 (fun j hj => by unfold mixR; rw [if_pos (by omega)]; exact congrArg (h.1 98) (by omega))
theorem FR_mix {W : List Nat} {h : PH} {k q o p i : Nat} (hw : W.contains k = true) : FR W h (mixI h k q o p i) := FR_cI _ (FR.rf W h) hw

/-! methods that write no long leave all longs as they are -/
def noL (S : List Nat) (o : Nat) : Instr → Bool
  | .lastore => false
  | .putfield idx => match ftab o idx with
    | some (_, _, t) => decide (t ≠ 2)
    | none => true
  | .invokestatic idx => match mtab o idx with
    | some (t, m, _) => if t = 3 then decide (m ≠ 6) else S.contains m
    | none => true
  | .invokevirtual idx => match mtab o idx with
    | some (_, m, _) => S.contains m
    | none => true
  | _ => true
def noLm (S : List Nat) (d : PMd) : Bool := d.2.2.2.2.2.2.2.all (fun e => match e with
  | none => true
  | some e => noL S d.1 e.1)
def noLs (S : List Nat) : Bool := S.all (fun m => match PP[m]? with
  | some d => noLm S d
  | none => true)
theorem nl_bin {i : Instr} {n pc : Nat} {L : PL} {st : List PV} {h : PH} {x : PN} (e : sBin i n pc L st h = some x) : x.2.2.2 = h := by
  unfold sBin at e
  (repeat' split at e) <;> cases e <;> rfl
theorem nl_binL {i : Instr} {n pc : Nat} {L : PL} {st : List PV} {h : PH} {x : PN} (e : sBinL i n pc L st h = some x) : x.2.2.2 = h := by
  unfold sBinL at e
  (repeat' split at e) <;> cases e <;> rfl
theorem nl_shL {i : Instr} {n pc : Nat} {L : PL} {st : List PV} {h : PH} {x : PN} (e : sShL i n pc L st h = some x) : x.2.2.2 = h := by
  unfold sShL at e
  (repeat' split at e) <;> cases e <;> rfl
theorem nl_un {i : Instr} {n pc : Nat} {L : PL} {st : List PV} {h : PH} {x : PN} (e : sUn i n pc L st h = some x) : x.2.2.2 = h := by
  unfold sUn at e
  (repeat' split at e) <;> cases e <;> rfl
theorem nl_stk {i : Instr} {n pc : Nat} {L : PL} {st : List PV} {h : PH} {x : PN} (e : sStk i n pc L st h = some x) : x.2.2.2 = h := by
  unfold sStk at e
  (repeat' split at e) <;> cases e <;> rfl
theorem nl_con {i : Instr} {n pc : Nat} {L : PL} {st : List PV} {h : PH} {x : PN} (e : sCon i n pc L st h = some x) : x.2.2.2 = h := by
  unfold sCon at e
  (repeat' split at e) <;> cases e <;> rfl
theorem nl_if {i : Instr} {n pc : Nat} {L : PL} {st : List PV} {h : PH} {x : PN} (e : sIf i n pc L st h = some x) : x.2.2.2 = h := by
  unfold sIf at e
  (repeat' split at e) <;> cases e <;> rfl
theorem nl_cmp {i : Instr} {n pc : Nat} {L : PL} {st : List PV} {h : PH} {x : PN} (e : sCmp i n pc L st h = some x) : x.2.2.2 = h := by
  unfold sCmp at e
  (repeat' split at e) <;> cases e <;> rfl
theorem nl_go {i : Instr} {n pc : Nat} {L : PL} {st : List PV} {h : PH} {x : PN} (e : sGo i n pc L st h = some x) : x.2.2.2 = h := by
  unfold sGo at e
  (repeat' split at e) <;> cases e <;> rfl
theorem nl_rd {d : PMd} {i : Instr} {n pc : Nat} {L : PL} {st : List PV} {h : PH} {x : PN} (e : sRd d i n pc L st h = some x) : x.2.2.2 = h := by
  unfold sRd at e
  (repeat' split at e) <;> cases e <;> rfl
theorem nl_ld {i : Instr} {n pc : Nat} {L : PL} {st : List PV} {h : PH} {x : PN} (e : sLd i n pc L st h = some x) : x.2.2.2 = h := by
  unfold sLd at e
  (repeat' split at e) <;> cases e <;> rfl
theorem nl_st {m : Nat} {i : Instr} {n pc : Nat} {L : PL} {st : List PV} {h : PH} {x : PN} (e : sSt m i n pc L st h = some x) : x.2.2.2 = h := by
  unfold sSt at e
  (repeat' split at e) <;> cases e <;> rfl
theorem nl_inc {m : Nat} {i : Instr} {n pc : Nat} {L : PL} {st : List PV} {h : PH} {x : PN} (e : sInc m i n pc L st h = some x) : x.2.2.2 = h := by
  unfold sInc at e
  (repeat' split at e) <;> cases e <;> rfl
theorem nl_wr {S : List Nat} {d : PMd} {i : Instr} {n pc : Nat} {L : PL} {st : List PV} {h : PH} {x : PN} (hi : noL S d.1 i = true) (e : sWr d i n pc L st h = some x) : x.2.2.2.2 = h.2 := by
  unfold sWr at e
  split at e
  · rename_i h' st' m eg
    split at e
    · injection e with e
      subst e
      show h'.2 = h.2
      unfold gWr at eg
      split at eg
      · rename_i idx v k st2
        split at eg
        · rename_i ci j t ci' fs e1 e2
          have hi' : (match ftab d.1 idx with | some (_, _, t) => decide (t ≠ 2) | none => true) = true := hi
          rw [e1] at hi'
          have ht : t ≠ 2 := of_decide_eq_true hi'
          split at eg
          · split at eg
            · split at eg
              · injection eg with eg; injection eg with a b; rw [← a]
              · cases eg
            · first | cases eg | (rw [if_neg ht] at eg; cases eg)
            · cases eg
          · cases eg
        · cases eg
      · split at eg
        · split at eg
          · injection eg with eg; injection eg with a b; rw [← a]
          · cases eg
        · cases eg
      · split at eg
        · split at eg
          · injection eg with eg; injection eg with a b; rw [← a]
          · cases eg
        · split at eg
          · injection eg with eg; injection eg with a b; rw [← a]
          · cases eg
        · cases eg
      · unfold noL at hi
        cases hi
      · cases eg
    · cases e
  · cases e
theorem nl_nat {S : List Nat} {d : PMd} {i : Instr} {n pc : Nat} {L : PL} {st : List PV} {h : PH} {x : PN} (hi : noL S d.1 i = true) (e : sNat d i n pc L st h = some x) : x.2.2.2.2 = h.2 := by
  unfold sNat at e
  split at e
  · rename_i idx vt eg
    split at e
    · rename_i t b a em
      split at e
      · rename_i c
        split at e
        · rename_i st' h' en
          split at e
          · injection e with e
            subst e
            show h'.2 = h.2
            have hb : b ≠ 6 := by
              unfold gInv at eg
              split at eg
              · injection eg with eg; injection eg with a1 a2; rw [c.2] at a2; cases a2
              · injection eg with eg
                injection eg with a1 a2
                subst a1
                have hi' : (match mtab d.1 _ with | some (t, m, _) => if t = 3 then decide (m ≠ 6) else S.contains m | none => true) = true := hi
                rw [em] at hi'
                dsimp only at hi'
                rw [if_pos c.1] at hi'
                exact of_decide_eq_true hi'
              · cases eg
            unfold gNat at en
            rw [if_neg hb] at en
            unfold gMath at en
            split at en <;> cases en <;> rfl
          · cases e
        · cases e
      · cases e
    · cases e
  · cases e
theorem or_some {α : Type} {a b : Option α} {x : α} (h : a.or b = some x) : a = some x ∨ b = some x := by
  cases a with
  | none => exact Or.inr h
  | some y => exact Or.inl h
theorem nl_next {S : List Nat} {d : PMd} {i : Instr} {n pc : Nat} {L : PL} {st : List PV} {h : PH} {x : PN} (hi : noL S d.1 i = true) (e : pnext d i n pc L st h = some x) : x.2.2.2.2 = h.2 := by
  unfold pnext at e
  rcases or_some e with e | e
  · rw [nl_bin e]
  rcases or_some e with e | e
  · rw [nl_binL e]
  rcases or_some e with e | e
  · rw [nl_shL e]
  rcases or_some e with e | e
  · rw [nl_un e]
  rcases or_some e with e | e
  · rw [nl_stk e]
  rcases or_some e with e | e
  · rw [nl_con e]
  rcases or_some e with e | e
  · rw [nl_if e]
  rcases or_some e with e | e
  · rw [nl_cmp e]
  rcases or_some e with e | e
  · rw [nl_go e]
  rcases or_some e with e | e
  · rw [nl_rd e]
  rcases or_some e with e | e
  · exact nl_wr hi e
  rcases or_some e with e | e
  · exact nl_nat hi e
  rcases or_some e with e | e
  · rw [nl_ld e]
  rcases or_some e with e | e
  · rw [nl_st e]
  · rw [nl_inc e]
theorem gInv_is {i : Instr} {idx : Nat} {vt : Bool} (h : gInv i = some (idx, vt)) : (vt = true ∧ i = .invokevirtual idx) ∨ (vt = false ∧ i = .invokestatic idx) := by
  unfold gInv at h
  split at h
  · injection h with h; injection h with a b; subst a b; exact Or.inl ⟨rfl, rfl⟩
  · injection h with h; injection h with a b; subst a b; exact Or.inr ⟨rfl, rfl⟩
  · cases h
theorem pinv_S {S : List Nat} {d : PMd} {i : Instr} {n : Nat} {st : List PV} {c : Nat × List PV × List PV} (hi : noL S d.1 i = true) (ec : pinv d i n st = some c) : S.contains c.1 = true := by
  by_cases hn : n = 3
  · subst hn
    cases hg : gInv i with
    | none =>
      have : pinv d i 3 st = none := by
        unfold pinv
        rw [hg]
      rw [this] at ec
      cases ec
    | some q =>
      obtain ⟨idx, vt⟩ := q
      cases em : mtab d.1 idx with
      | none =>
        have : pinv d i 3 st = none := by
          unfold pinv
          rw [hg]
          show (match mtab d.1 idx with | some (t, m, a) => _ | none => _) = _
          rw [em]
        rw [this] at ec
        cases ec
      | some w =>
        obtain ⟨t, m, a⟩ := w
        cases hp : PP[m]? with
        | none => rw [pinv_no hg em hp] at ec; cases ec
        | some d' =>
          rw [pinv_eq hg em hp] at ec
          have key : vt = true ∨ ¬ t = 3 → S.contains m = true := by
            intro hv
            rcases gInv_is hg with ⟨e1, e2⟩ | ⟨e1, e2⟩
            · subst e2
              have hi' : (match mtab d.1 idx with | some (_, m, _) => S.contains m | none => true) = true := hi
              rw [em] at hi'
              exact hi'
            · subst e2
              have hi' : (match mtab d.1 idx with | some (t, m, _) => if t = 3 then decide (m ≠ 6) else S.contains m | none => true) = true := hi
              rw [em] at hi'
              dsimp only at hi'
              have ht : ¬ t = 3 := hv.elim (fun z => by rw [e1] at z; cases z) id
              rw [if_neg ht] at hi'
              exact hi'
          split at ec
          · split at ec
            · rename_i cv
              split at ec
              · split at ec
                · injection ec with ec
                  subst ec
                  exact key (Or.inl cv.1)
                · cases ec
              · cases ec
            · split at ec
              · rename_i cv
                split at ec
                · injection ec with ec
                  subst ec
                  exact key (Or.inr (by omega))
                · cases ec
              · cases ec
          · cases ec
  · exfalso
    unfold pinv at ec
    split at ec
    · exact hn rfl
    · cases ec
theorem nl_run {S : List Nat} (hS : noLs S = true) : ∀ (f : Nat) (d : PMd) (pc : Nat) (L : PL) (st : List PV) (h : PH) (r : Option PV) (h' : PH), noLm S d = true → prun f d pc L st h = some (r, h') → h'.2 = h.2 := by
  intro f
  induction f with
  | zero => intro d pc L st h r h' _ e; cases e
  | succ f ih =>
    intro d pc L st h r h' hd e
    have e' : pbody (prun f) d pc L st h = some (r, h') := e
    unfold pbody at e'
    cases ho : pone d pc L st h with
    | none => rw [ho] at e'; cases e'
    | some o =>
      rw [ho] at e'
      unfold pone at ho
      split at ho
      · rename_i i n eg
        have hi : noL S d.1 i = true := by
          have := List.all_eq_true.mp hd (some (i, n)) (List.mem_of_getElem? eg)
          exact this
        split at ho
        · injection ho with ho
          subst ho
          injection e' with e'
          injection e' with a b
          rw [← b]
        · split at ho
          · rename_i c ec
            injection ho with ho
            subst ho
            dsimp only at e'
            cases hp : PP[c.1]? with
            | none => rw [hp] at e'; cases e'
            | some d' =>
              rw [hp] at e'
              dsimp only at e'
              cases hc : prun f d' 0 (pargs 0 c.2.1) [] h with
              | none => rw [hc] at e'; cases e'
              | some y =>
                rw [hc] at e'
                dsimp only at e'
                have hcS : S.contains c.1 = true := pinv_S hi ec
                have hd' : noLm S d' = true := by
                  have hm : c.1 ∈ S := by simpa using hcS
                  have := List.all_eq_true.mp hS c.1 hm
                  rw [hp] at this
                  exact this
                have h1 := ih d' 0 _ [] h y.1 y.2 hd' hc
                have h2 := ih d (pc + 3) L _ y.2 r h' hd e'
                rw [h2, h1]
          · split at ho
            · rename_i x en
              injection ho with ho
              subst ho
              dsimp only at e'
              have h1 := nl_next hi en
              have h2 := ih d x.1 x.2.1 x.2.2.1 x.2.2.2 r h' hd e'
              rw [h2, h1]
            · cases ho
      · cases ho
theorem CALL_nl {S : List Nat} (hS : noLs S = true) {d : PMd} (hd : noLm S d = true) {vs : List PV} {h : PH} {Q : Option PV → PH → Prop} (hc : CALL d vs h Q) : CALL d vs h (fun r h' => Q r h' ∧ h'.2 = h.2) := by
  obtain ⟨f, r, h', h1, h2⟩ := hc
  exact ⟨f, r, h', h1, h2, nl_run hS f d _ _ _ h r h' hd h1⟩

def NLS : List Nat := [54, 55, 91, 92, 93, 94, 95, 96, 97, 98, 99]
set_option maxRecDepth 1000000 in
theorem NLS_ok : noLs NLS = true := by decide +kernel
set_option maxRecDepth 1000000 in
theorem NL_X9_asItIs : noLm NLS d_X9_asItIs = true := by decide +kernel
set_option maxRecDepth 1000000 in
theorem NL_X9_goAll : noLm NLS d_X9_goAll = true := by decide +kernel

theorem wL_is {h : PH} {k j : Nat} {x : Int64} : (wL h k j x).2 k j = x := by rw [wL_self]; exact if_pos rfl
theorem wL_at {h : PH} {k j i : Nat} {x : Int64} (hj : i ≠ j) : (wL h k j x).2 k i = h.2 k i := by rw [wL_self]; exact if_neg hj
theorem p8 {n : Nat} (h : n ≤ 8) : (10 : Int) ^ n ≤ 100000000 := by
  have : ∀ n, n ≤ 8 → (10 : Int) ^ n ≤ 100000000 := by decide
  exact this n h
theorem mulv {v y w : Int64} {n : Nat} (e : w = v * y) (hv : 0 ≤ v.toInt) (hv2 : v.toInt ≤ (10 : Int) ^ n) (hy : 0 ≤ y.toInt ∧ y.toInt ≤ 10) (hn : n ≤ 7) : 0 ≤ w.toInt ∧ w.toInt ≤ (10 : Int) ^ (n + 1) ∧ (0 < v.toInt → 0 < y.toInt → 0 < w.toInt) := by
  have h8 := p8 (n := n) (by omega)
  have hm : v.toInt * y.toInt ≤ (10 : Int) ^ n * 10 := Int.mul_le_mul hv2 hy.2 hy.1 (by omega)
  have h0 : 0 ≤ v.toInt * y.toInt := Int.mul_nonneg hv hy.1
  have ew : w.toInt = v.toInt * y.toInt := by rw [e]; exact l_mul rfl rfl (by omega)
  rw [ew, Int.pow_succ]
  exact ⟨h0, hm, fun a b => Int.mul_pos a b⟩
theorem shl2t {y w : Int32} (e : w = (2 : Int32) <<< (y &&& 31)) (hy : 0 ≤ y.toInt ∧ y.toInt ≤ 7) : (y.toInt = 0 ∧ w.toInt = 2) ∨ (y.toInt = 1 ∧ w.toInt = 4) ∨ (y.toInt = 2 ∧ w.toInt = 8) ∨ (y.toInt = 3 ∧ w.toInt = 16) ∨ (y.toInt = 4 ∧ w.toInt = 32) ∨ (y.toInt = 5 ∧ w.toInt = 64) ∨ (y.toInt = 6 ∧ w.toInt = 128) ∨ (y.toInt = 7 ∧ w.toInt = 256) := by
  obtain ⟨n, hn, ey, e2⟩ := sh_nat hy
  rw [e, e2, ey]
  have : ∀ n : Nat, n ≤ 7 → ((n : Int) = 0 ∧ ((2 : Int32) <<< (nI n &&& 31)).toInt = 2) ∨ ((n : Int) = 1 ∧ ((2 : Int32) <<< (nI n &&& 31)).toInt = 4) ∨ ((n : Int) = 2 ∧ ((2 : Int32) <<< (nI n &&& 31)).toInt = 8) ∨ ((n : Int) = 3 ∧ ((2 : Int32) <<< (nI n &&& 31)).toInt = 16) ∨ ((n : Int) = 4 ∧ ((2 : Int32) <<< (nI n &&& 31)).toInt = 32) ∨ ((n : Int) = 5 ∧ ((2 : Int32) <<< (nI n &&& 31)).toInt = 64) ∨ ((n : Int) = 6 ∧ ((2 : Int32) <<< (nI n &&& 31)).toInt = 128) ∨ ((n : Int) = 7 ∧ ((2 : Int32) <<< (nI n &&& 31)).toInt = 256) := by decide
  exact this n hn
theorem bit0 {x y : Int32} (hy : 0 ≤ y.toInt ∧ y.toInt ≤ 7) (hx : x.toInt = 0) : ((x >>> (y &&& 31)) &&& 1).toInt = 0 := by
  obtain ⟨n, hn, ey, -⟩ := sh_nat hy
  have ex : x = 0 := i_of 0 hx
  rw [ex, ey]
  have : ∀ n, n ≤ 7 → (((0 : Int32) >>> (nI n &&& 31)) &&& 1).toInt = 0 := by decide
  exact this n hn
theorem bit1 {x y : Int32} (hy : 0 ≤ y.toInt) {j : Nat} (hj : j ≤ 7) (hx : x.toInt = 2 ^ (j + 1) - 1) (hyj : y.toInt ≤ j) : ((x >>> (y &&& 31)) &&& 1).toInt = 1 := by
  obtain ⟨n, hn, ey, e2⟩ := sh_nat (y := y) (by omega)
  have ex : x = nI (2 ^ (j + 1) - 1) := by
    refine i_of _ ?_
    have : ∀ j, j ≤ 7 → (nI (2 ^ (j + 1) - 1)).toInt = 2 ^ (j + 1) - 1 := by decide
    rw [this j hj]; exact hx
  rw [ex, ey]
  have : ∀ j, j ≤ 7 → ∀ n, n ≤ j → ((nI (2 ^ (j + 1) - 1) >>> (nI n &&& 31)) &&& 1).toInt = 1 := by decide
  exact this j hj n (by omega)
def bitS (k x z : Int) : Prop := ∀ j : Nat, k ≤ j → j ≤ 7 → 0 ≤ k → x = 2 ^ (j + 1) - 1 → z = 1
theorem shl2p {y w : Int32} (e : w = (2 : Int32) <<< (y &&& 31)) (hy : 0 ≤ y.toInt ∧ y.toInt ≤ 7) : w.toInt = 2 ^ (y.toInt.toNat + 1) := by
  obtain ⟨n, hn, ey, e2⟩ := sh_nat hy
  rw [e, e2, ey]
  have : ∀ n : Nat, n ≤ 7 → ((2 : Int32) <<< (nI n &&& 31)).toInt = 2 ^ (((n : Int)).toNat + 1) := by decide
  exact this n hn
theorem p2pos {n : Nat} : (0 : Int) < 2 ^ (n + 1) := Int.pow_pos (by decide)
def I3 (od y x O : Int) : Prop := od = 10 → 2 ^ (y.toNat + 1) ≤ x → 0 < O
def I4 (od y x v : Int) : Prop := od = 10 → x = 2 ^ (y.toNat + 1) - 1 → 0 < v
theorem I3_0 {od y O : Int} : I3 od y 0 O := fun _ h => absurd (Int.lt_of_lt_of_le p2pos h) (by decide)
theorem I3_A {od y x x' v O L : Int} (i4 : I4 od y x v) (hv : v = 0) (hL : L = 2 ^ (y.toNat + 1)) (hlt : x < L) (hx : x' = x + 1) : I3 od y x' O := by
  intro h1 h2
  have := i4 h1 (by omega)
  omega
theorem I3_B {od y x O : Int} (h : 0 < O) : I3 od y x O := fun _ _ => h
theorem I4_0 {od y x v : Int} (h : 0 < v) : I4 od y x v := fun _ _ => h
theorem I4_1 {od y x v w q : Int} (i4 : I4 od y x v) (m : 0 < v → 0 < q → 0 < w) (hq : q = od) : I4 od y x w := fun h1 h2 => m (i4 h1 h2) (by omega)
theorem I4_n {od y x w k z : Int} (hb : bitS k x z) (hz : ¬ z = 1) (hk : 0 ≤ k ∧ k ≤ y) (hy : y ≤ 7) : I4 od y x w := fun _ h2 => absurd (hb y.toNat (by omega) (by omega) hk.1 h2) hz
theorem shl2b {y w : Int32} (e : w = (2 : Int32) <<< (y &&& 31)) (hy : 0 ≤ y.toInt ∧ y.toInt ≤ 7) : 2 ≤ w.toInt ∧ w.toInt ≤ 256 := by
  obtain ⟨n, hn, ey, e2⟩ := sh_nat hy
  rw [e, ey]
  have : ∀ n : Nat, n ≤ 7 → 2 ≤ ((2 : Int32) <<< (nI n &&& 31)).toInt ∧ ((2 : Int32) <<< (nI n &&& 31)).toInt ≤ 256 := by decide
  exact this n hn

/-! bits counted by nibbles and bytes -/
theorem andS {i a b c d : Nat} (hb : b < 2 ^ i) (hd : d < 2 ^ i) : (2 ^ i * a + b) &&& (2 ^ i * c + d) = 2 ^ i * (a &&& c) + (b &&& d) := by
  apply Nat.eq_of_testBit_eq
  intro j
  rw [Nat.testBit_and, Nat.testBit_two_pow_mul_add a hb, Nat.testBit_two_pow_mul_add c hd, Nat.testBit_two_pow_mul_add (a &&& c) (Nat.and_lt_two_pow b hd)]
  split
  · rw [Nat.testBit_and]
  · rw [Nat.testBit_and]
theorem and16 {a b c d : Nat} (hb : b < 16) (hd : d < 16) : (16 * a + b) &&& (16 * c + d) = 16 * (a &&& c) + (b &&& d) := andS (i := 4) hb hd
theorem and256 {a b c d : Nat} (hb : b < 256) (hd : d < 256) : (256 * a + b) &&& (256 * c + d) = 256 * (a &&& c) + (b &&& d) := andS (i := 8) hb hd
def m5 : Nat → Nat
  | 0 => 0
  | k + 1 => 16 * m5 k + 5
def m3 : Nat → Nat
  | 0 => 0
  | k + 1 => 16 * m3 k + 3
def mF : Nat → Nat
  | 0 => 0
  | k + 1 => 256 * mF k + 15
def f1 (r : Nat) : Nat := r - (r / 2 &&& 5)
def pc4 (r : Nat) : Nat := (f1 r &&& 3) + (f1 r / 4 &&& 3)
def pn : Nat → Nat → Nat
  | 0, _ => 0
  | k + 1, n => 16 * pn k (n / 16) + pc4 (n % 16)
theorem pc4_le {r : Nat} (h : r < 16) : pc4 r ≤ 4 := by
  have : ∀ r, r < 16 → pc4 r ≤ 4 := by decide
  exact this r h
theorem st1 : ∀ (k n : Nat), (n / 2 &&& m5 k) ≤ n ∧ ((n - (n / 2 &&& m5 k)) &&& m3 k) + ((n - (n / 2 &&& m5 k)) / 4 &&& m3 k) = pn k n := by
  intro k
  induction k with
  | zero =>
    intro n
    have e1 : n / 2 &&& m5 0 = 0 := Nat.and_zero _
    have e2 : ∀ x, x &&& m3 0 = 0 := fun x => Nat.and_zero _
    rw [e1, e2, e2]
    exact ⟨Nat.zero_le _, rfl⟩
  | succ k ih =>
    intro n
    obtain ⟨h1, h2⟩ := ih (n / 16)
    have a1 : n / 2 = 16 * (n / 16 / 2) + (8 * (n / 16 % 2) + n % 16 / 2) := by omega
    have a2 : ∀ q, q < 2 → ∀ r, r < 16 → ((8 * q + r / 2) &&& 5) = (r / 2 &&& 5) := by decide
    have a3 : n / 2 &&& m5 (k + 1) = 16 * (n / 16 / 2 &&& m5 k) + (n % 16 / 2 &&& 5) := by
      show n / 2 &&& (16 * m5 k + 5) = _
      rw [a1, and16 (by omega) (by decide), a2 (n / 16 % 2) (by omega) (n % 16) (by omega)]
    have a4 : ∀ r, r < 16 → (r / 2 &&& 5) ≤ r := by decide
    have a5 := a4 (n % 16) (by omega)
    have e : n - (n / 2 &&& m5 (k + 1)) = 16 * (n / 16 - (n / 16 / 2 &&& m5 k)) + f1 (n % 16) := by
      rw [a3]
      unfold f1
      omega
    have f16 : f1 (n % 16) < 16 := by unfold f1; omega
    refine ⟨by rw [a3]; omega, ?_⟩
    rw [e]
    generalize n / 16 - (n / 16 / 2 &&& m5 k) = X at h2 ⊢
    show ((16 * X + f1 (n % 16)) &&& (16 * m3 k + 3)) + ((16 * X + f1 (n % 16)) / 4 &&& (16 * m3 k + 3)) = 16 * pn k (n / 16) + pc4 (n % 16)
    have b1 : (16 * X + f1 (n % 16)) / 4 = 16 * (X / 4) + (4 * (X % 4) + f1 (n % 16) / 4) := by omega
    have b2 : ∀ q, q < 4 → ∀ r, r < 16 → ((4 * q + r / 4) &&& 3) = (r / 4 &&& 3) := by decide
    rw [b1, and16 f16 (by decide), and16 (by omega) (by decide), b2 (X % 4) (by omega) _ f16]
    unfold pc4
    omega
def bs : Nat → Nat → Nat
  | 0, _ => 0
  | k + 1, n => 256 * bs k (n / 256) + (pc4 (n % 16) + pc4 (n / 16 % 16))
theorem pn_mod (k n : Nat) : pn k n % 16 ≤ 4 := by
  cases k with
  | zero => exact Nat.zero_le _
  | succ k =>
    have := pc4_le (r := n % 16) (by omega)
    show (16 * pn k (n / 16) + pc4 (n % 16)) % 16 ≤ 4
    omega
theorem st2 : ∀ (k n : Nat), (pn (2 * k) n + pn (2 * k) n / 16) &&& mF k = bs k n := by
  intro k
  induction k with
  | zero => intro n; exact Nat.and_zero _
  | succ k ih =>
    intro n
    have h := ih (n / 256)
    have p1 := pc4_le (r := n % 16) (by omega)
    have p2 := pc4_le (r := n / 16 % 16) (by omega)
    have pm := pn_mod (2 * k) (n / 256)
    have e : pn (2 * (k + 1)) n = 256 * pn (2 * k) (n / 256) + (16 * pc4 (n / 16 % 16) + pc4 (n % 16)) := by
      show 16 * (16 * pn (2 * k) (n / 16 / 16) + pc4 (n / 16 % 16)) + pc4 (n % 16) = _
      rw [show n / 16 / 16 = n / 256 by omega]
      omega
    show (pn (2 * (k + 1)) n + pn (2 * (k + 1)) n / 16) &&& (256 * mF k + 15) = 256 * bs k (n / 256) + (pc4 (n % 16) + pc4 (n / 16 % 16))
    rw [e, ← h]
    generalize pn (2 * k) (n / 256) = V at pm ⊢
    generalize pc4 (n % 16) = A at p1 ⊢
    generalize pc4 (n / 16 % 16) = B at p2 ⊢
    have e2 : 256 * V + (16 * B + A) + (256 * V + (16 * B + A)) / 16 = 256 * (V + V / 16) + (16 * (B + V % 16) + (A + B)) := by omega
    rw [e2, and256 (by omega) (by decide), Nat.and_two_pow_sub_one_eq_mod _ 4]
    omega
/-- the count as it comes out of the bytes -/
theorem st3 {n : Nat} (hn : n < 2 ^ 60) : (let c := bs 8 n; let d := c + c / 256; let e := d + d / 65536; (e + e / 4294967296) % 128) ≤ 60 ∧ bs 8 n < 2 ^ 60 := by
  have c0 := pc4_le (r := n % 16) (by omega)
  have c1 := pc4_le (r := n / 16 % 16) (by omega)
  have c2 := pc4_le (r := n / 256 % 16) (by omega)
  have c3 := pc4_le (r := n / 256 / 16 % 16) (by omega)
  have c4 := pc4_le (r := n / 256 / 256 % 16) (by omega)
  have c5 := pc4_le (r := n / 256 / 256 / 16 % 16) (by omega)
  have c6 := pc4_le (r := n / 256 / 256 / 256 % 16) (by omega)
  have c7 := pc4_le (r := n / 256 / 256 / 256 / 16 % 16) (by omega)
  have c8 := pc4_le (r := n / 256 / 256 / 256 / 256 % 16) (by omega)
  have c9 := pc4_le (r := n / 256 / 256 / 256 / 256 / 16 % 16) (by omega)
  have d0 := pc4_le (r := n / 256 / 256 / 256 / 256 / 256 % 16) (by omega)
  have d1 := pc4_le (r := n / 256 / 256 / 256 / 256 / 256 / 16 % 16) (by omega)
  have d2 := pc4_le (r := n / 256 / 256 / 256 / 256 / 256 / 256 % 16) (by omega)
  have d3 := pc4_le (r := n / 256 / 256 / 256 / 256 / 256 / 256 / 16 % 16) (by omega)
  have d4 := pc4_le (r := n / 256 / 256 / 256 / 256 / 256 / 256 / 256 % 16) (by omega)
  have hn' : n < 1152921504606846976 := hn
  have d5 : pc4 (n / 256 / 256 / 256 / 256 / 256 / 256 / 256 / 16 % 16) = 0 := by
    rw [show n / 256 / 256 / 256 / 256 / 256 / 256 / 256 / 16 % 16 = 0 by omega]
    rfl
  have e : bs 8 n = 256 * (256 * (256 * (256 * (256 * (256 * (256 * (256 * 0 + (pc4 (n / 256 / 256 / 256 / 256 / 256 / 256 / 256 % 16) + pc4 (n / 256 / 256 / 256 / 256 / 256 / 256 / 256 / 16 % 16))) + (pc4 (n / 256 / 256 / 256 / 256 / 256 / 256 % 16) + pc4 (n / 256 / 256 / 256 / 256 / 256 / 256 / 16 % 16))) + (pc4 (n / 256 / 256 / 256 / 256 / 256 % 16) + pc4 (n / 256 / 256 / 256 / 256 / 256 / 16 % 16))) + (pc4 (n / 256 / 256 / 256 / 256 % 16) + pc4 (n / 256 / 256 / 256 / 256 / 16 % 16))) + (pc4 (n / 256 / 256 / 256 % 16) + pc4 (n / 256 / 256 / 256 / 16 % 16))) + (pc4 (n / 256 / 256 % 16) + pc4 (n / 256 / 256 / 16 % 16))) + (pc4 (n / 256 % 16) + pc4 (n / 256 / 16 % 16))) + (pc4 (n % 16) + pc4 (n / 16 % 16)) := rfl
  rw [e, d5]
  generalize pc4 (n % 16) = a0 at c0 ⊢
  generalize pc4 (n / 16 % 16) = a1 at c1 ⊢
  generalize pc4 (n / 256 % 16) = a2 at c2 ⊢
  generalize pc4 (n / 256 / 16 % 16) = a3 at c3 ⊢
  generalize pc4 (n / 256 / 256 % 16) = a4 at c4 ⊢
  generalize pc4 (n / 256 / 256 / 16 % 16) = a5 at c5 ⊢
  generalize pc4 (n / 256 / 256 / 256 % 16) = a6 at c6 ⊢
  generalize pc4 (n / 256 / 256 / 256 / 16 % 16) = a7 at c7 ⊢
  generalize pc4 (n / 256 / 256 / 256 / 256 % 16) = a8 at c8 ⊢
  generalize pc4 (n / 256 / 256 / 256 / 256 / 16 % 16) = a9 at c9 ⊢
  generalize pc4 (n / 256 / 256 / 256 / 256 / 256 % 16) = b0 at d0 ⊢
  generalize pc4 (n / 256 / 256 / 256 / 256 / 256 / 16 % 16) = b1 at d1 ⊢
  generalize pc4 (n / 256 / 256 / 256 / 256 / 256 / 256 % 16) = b2 at d2 ⊢
  generalize pc4 (n / 256 / 256 / 256 / 256 / 256 / 256 / 16 % 16) = b3 at d3 ⊢
  generalize pc4 (n / 256 / 256 / 256 / 256 / 256 / 256 / 256 % 16) = b4 at d4 ⊢
  clear e d5 hn hn'
  obtain ⟨x0, hx0⟩ : ∃ x, a0 + a1 = x := ⟨_, rfl⟩
  obtain ⟨x1, hx1⟩ : ∃ x, a2 + a3 = x := ⟨_, rfl⟩
  obtain ⟨x2, hx2⟩ : ∃ x, a4 + a5 = x := ⟨_, rfl⟩
  obtain ⟨x3, hx3⟩ : ∃ x, a6 + a7 = x := ⟨_, rfl⟩
  obtain ⟨x4, hx4⟩ : ∃ x, a8 + a9 = x := ⟨_, rfl⟩
  obtain ⟨x5, hx5⟩ : ∃ x, b0 + b1 = x := ⟨_, rfl⟩
  obtain ⟨x6, hx6⟩ : ∃ x, b2 + b3 = x := ⟨_, rfl⟩
  have y0 : x0 ≤ 8 := by omega
  have y1 : x1 ≤ 8 := by omega
  have y2 : x2 ≤ 8 := by omega
  have y3 : x3 ≤ 8 := by omega
  have y4 : x4 ≤ 8 := by omega
  have y5 : x5 ≤ 8 := by omega
  have y6 : x6 ≤ 8 := by omega
  rw [hx0, hx1, hx2, hx3, hx4, hx5, hx6, Nat.add_zero b4]
  clear hx0 hx1 hx2 hx3 hx4 hx5 hx6 c0 c1 c2 c3 c4 c5 c6 c7 c8 c9 d0 d1 d2 d3
  dsimp only
  have q1 : (256 * (256 * (256 * (256 * (256 * (256 * (256 * (256 * 0 + b4) + x6) + x5) + x4) + x3) + x2) + x1) + x0) / 256 = 256 * (256 * (256 * (256 * (256 * (256 * b4 + x6) + x5) + x4) + x3) + x2) + x1 := by omega
  rw [q1]
  have q2 : (256 * (256 * (256 * (256 * (256 * (256 * (256 * (256 * 0 + b4) + x6) + x5) + x4) + x3) + x2) + x1) + x0 + (256 * (256 * (256 * (256 * (256 * (256 * b4 + x6) + x5) + x4) + x3) + x2) + x1)) / 65536 = 256 * (256 * (256 * (256 * (256 * b4 + (x6 + b4)) + (x5 + x6)) + (x4 + x5)) + (x3 + x4)) + (x2 + x3) := by omega
  rw [q2]
  refine ⟨?_, by omega⟩
  have q3 : (256 * (256 * (256 * (256 * (256 * (256 * (256 * (256 * 0 + b4) + x6) + x5) + x4) + x3) + x2) + x1) + x0 + (256 * (256 * (256 * (256 * (256 * (256 * b4 + x6) + x5) + x4) + x3) + x2) + x1) + (256 * (256 * (256 * (256 * (256 * b4 + (x6 + b4)) + (x5 + x6)) + (x4 + x5)) + (x3 + x4)) + (x2 + x3))) / 4294967296 = 256 * (256 * (256 * b4 + (x6 + b4)) + (x5 + x6 + b4)) + (x4 + x5 + x6 + b4) := by omega
  rw [q3]
  clear q1 q2 q3
  have q4 : 256 * (256 * (256 * (256 * (256 * (256 * (256 * (256 * 0 + b4) + x6) + x5) + x4) + x3) + x2) + x1) + x0 + (256 * (256 * (256 * (256 * (256 * (256 * b4 + x6) + x5) + x4) + x3) + x2) + x1) + (256 * (256 * (256 * (256 * (256 * b4 + (x6 + b4)) + (x5 + x6)) + (x4 + x5)) + (x3 + x4)) + (x2 + x3)) + (256 * (256 * (256 * b4 + (x6 + b4)) + (x5 + x6 + b4)) + (x4 + x5 + x6 + b4)) = 256 * ((256 * (256 * (256 * (256 * (256 * (256 * (256 * 0 + b4) + x6) + x5) + x4) + x3) + x2) + x1) + (256 * (256 * (256 * (256 * (256 * b4 + x6) + x5) + x4) + x3) + x2) + (256 * (256 * (256 * (256 * b4 + (x6 + b4)) + (x5 + x6)) + (x4 + x5)) + (x3 + x4)) + (256 * (256 * b4 + (x6 + b4)) + (x5 + x6 + b4))) + (x0 + x1 + x2 + x3 + x4 + x5 + x6 + b4) := by omega
  rw [q4]
  generalize (256 * (256 * (256 * (256 * (256 * (256 * (256 * 0 + b4) + x6) + x5) + x4) + x3) + x2) + x1) + (256 * (256 * (256 * (256 * (256 * b4 + x6) + x5) + x4) + x3) + x2) + (256 * (256 * (256 * (256 * b4 + (x6 + b4)) + (x5 + x6)) + (x4 + x5)) + (x3 + x4)) + (256 * (256 * b4 + (x6 + b4)) + (x5 + x6 + b4)) = TT
  have hs : x0 + x1 + x2 + x3 + x4 + x5 + x6 + b4 ≤ 60 := by omega
  generalize x0 + x1 + x2 + x3 + x4 + x5 + x6 + b4 = s at hs ⊢
  clear q4 y0 y1 y2 y3 y4 y5 y6 d4
  omega
theorem m5_16 : m5 16 = 6148914691236517205 := by decide
theorem m3_16 : m3 16 = 3689348814741910323 := by decide
theorem mF_8 : mF 8 = 1085102592571150095 := by decide
/-- the whole count, on numbers -/
theorem bcN {n : Nat} (hn : n < 2 ^ 60) : ∃ i1 i2 i3 : Nat, i1 = n - (n / 2 &&& 6148914691236517205) ∧ (n / 2 &&& 6148914691236517205) ≤ n ∧ i2 = (i1 &&& 3689348814741910323) + (i1 / 4 &&& 3689348814741910323) ∧ i3 = (i2 + i2 / 16) &&& 1085102592571150095 ∧ i2 ≤ 4919131752989213764 ∧ i3 < 2 ^ 60 ∧ (i3 + i3 / 256 + (i3 + i3 / 256) / 65536 + (i3 + i3 / 256 + (i3 + i3 / 256) / 65536) / 4294967296) % 128 ≤ 60 := by
  obtain ⟨a1, a2⟩ := st1 16 n
  rw [m5_16] at a1 a2
  rw [m3_16] at a2
  have b := st2 8 n
  rw [mF_8] at b
  have c := st3 hn
  have lt : ∀ k n, pn k n < 16 ^ k := by
    intro k
    induction k with
    | zero => intro n; exact Nat.one_pos
    | succ k ih =>
      intro n
      have := ih (n / 16)
      have := pc4_le (r := n % 16) (by omega)
      show 16 * pn k (n / 16) + pc4 (n % 16) < 16 ^ k * 16
      omega
  refine ⟨_, _, _, rfl, a1, rfl, rfl, ?_, ?_, ?_⟩
  · rw [a2]
    have e : pn 16 n = 16 * pn 15 (n / 16) + pc4 (n % 16) := rfl
    have h15 := lt 15 (n / 16)
    have e15 : pn 15 (n / 16) = 16 * pn 14 (n / 16 / 16) + pc4 (n / 16 % 16) := rfl
    have top : ∀ k n, pn k n ≤ 4 * (16 ^ k - 1) / 15 := by
      intro k
      induction k with
      | zero => intro n; exact Nat.zero_le _
      | succ k ih =>
        intro n
        have h1 := ih (n / 16)
        have h2 := pc4_le (r := n % 16) (by omega)
        have h3 : 16 ^ (k + 1) = 16 ^ k * 16 := Nat.pow_succ _ _
        have h4 : 0 < 16 ^ k := Nat.pow_pos (by decide)
        have h5 : ∃ q, 16 ^ k = 15 * q + 1 := by
          clear h1 h2 h3 h4 ih
          induction k with
          | zero => exact ⟨0, rfl⟩
          | succ k ih => obtain ⟨q, hq⟩ := ih; exact ⟨16 * q + 1, by rw [Nat.pow_succ, hq]; omega⟩
        obtain ⟨q, hq⟩ := h5
        show 16 * pn k (n / 16) + pc4 (n % 16) ≤ 4 * (16 ^ (k + 1) - 1) / 15
        rw [h3, hq]
        rw [hq] at h1
        omega
    have := top 16 n
    rw [show 4 * (16 ^ 16 - 1) / 15 = 4919131752989213764 by decide] at this
    exact this
  · rw [a2, b]; exact c.2
  · rw [a2, b]; exact c.1

theorem nn64 {x : Int64} (h : 0 ≤ x.toInt) : x.toBitVec.toNat = x.toInt.toNat ∧ x.toBitVec.toNat < 9223372036854775808 := by
  have hm : x.toBitVec.msb = false := by
    cases hm : x.toBitVec.msb with
    | false => rfl
    | true =>
      have h1 : x.toInt < 0 := BitVec.toInt_neg_of_msb_true hm
      omega
  have e : x.toInt = (x.toBitVec.toNat : Int) := by
    show x.toBitVec.toInt = _
    rw [BitVec.toInt_eq_toNat_of_msb hm]
  have := l_rng x
  exact ⟨by omega, by omega⟩
theorem of64 {x : Int64} {n : Nat} (h : x.toBitVec.toNat = n) (hn : n < 9223372036854775808) : x.toInt = (n : Int) := by
  show x.toBitVec.toInt = _
  rw [BitVec.toInt_eq_toNat_of_lt (by rw [h]; omega), h]
theorem L_and {x y : Int64} {a b : Nat} (hx : x.toInt = (a : Int)) (hy : y.toInt = (b : Int)) : (x &&& y).toInt = ((a &&& b : Nat) : Int) := by
  obtain ⟨h1, h2⟩ := nn64 (x := x) (by omega)
  obtain ⟨h3, h4⟩ := nn64 (x := y) (by omega)
  have e : (x &&& y).toBitVec.toNat = a &&& b := by
    show (x.toBitVec &&& y.toBitVec).toNat = _
    rw [BitVec.toNat_and, h1, h3, hx, hy]
    rfl
  refine of64 e ?_
  have : a &&& b ≤ b := Nat.and_le_right
  omega
theorem L_ushr {x : Int64} {s : UInt64} {a k : Nat} (hx : x.toInt = (a : Int)) (hs : s.toNat = k) (hk : k < 64) : ((x.toUInt64 >>> s).toInt64).toInt = ((a / 2 ^ k : Nat) : Int) := by
  obtain ⟨h1, h2⟩ := nn64 (x := x) (by omega)
  have e : ((x.toUInt64 >>> s).toInt64).toBitVec.toNat = a / 2 ^ k := by
    show (x.toUInt64 >>> s).toNat = _
    rw [UInt64.toNat_shiftRight, hs, Nat.mod_eq_of_lt hk, Nat.shiftRight_eq_div_pow]
    show x.toBitVec.toNat / _ = _
    rw [h1, hx]
    rfl
  refine of64 e ?_
  have : a / 2 ^ k ≤ a := Nat.div_le_self _ _
  omega
theorem L_127 {x : Int64} {a : Nat} (hx : x.toInt = (a : Int)) : (x.toInt32 &&& 127).toInt = ((a % 128 : Nat) : Int) := by
  obtain ⟨h1, h2⟩ := nn64 (x := x) (by omega)
  have e : (x.toInt32 &&& 127).toBitVec.toNat = a % 128 := by
    show (x.toBitVec.signExtend 32 &&& (127 : Int32).toBitVec).toNat = _
    rw [BitVec.toNat_and]
    have e2 : (x.toBitVec.signExtend 32).toNat = a % 2 ^ 32 := by
      rw [BitVec.signExtend_eq_setWidth_of_le _ (by decide), BitVec.toNat_setWidth, h1, hx]
      rfl
    rw [e2]
    show a % 2 ^ 32 &&& (2 ^ 7 - 1) = _
    rw [Nat.and_two_pow_sub_one_eq_mod]
    omega
  show (x.toInt32 &&& 127).toBitVec.toInt = _
  rw [BitVec.toInt_eq_toNat_of_lt (by rw [e]; omega), e]
theorem bc60 {a0 w1 w2 w3 w4 w5 w6 w7 w8 w9 w10 w11 w12 w13 w14 w15 w16 : Int64} {s1 s2 s4 s8 s16 s32 : UInt64} (t1 : s1.toNat = 1) (t2 : s2.toNat = 2) (t4 : s4.toNat = 4) (t8 : s8.toNat = 8) (t16 : s16.toNat = 16) (t32 : s32.toNat = 32)
    (e1 : w1 = (a0.toUInt64 >>> s1).toInt64) (e2 : w2 = w1 &&& 6148914691236517205) (e3 : w3 = a0 - w2) (e4 : w4 = w3 &&& 3689348814741910323) (e5 : w5 = (w3.toUInt64 >>> s2).toInt64) (e6 : w6 = w5 &&& 3689348814741910323) (e7 : w7 = w4 + w6) (e8 : w8 = (w7.toUInt64 >>> s4).toInt64) (e9 : w9 = w7 + w8) (e10 : w10 = w9 &&& 1085102592571150095) (e11 : w11 = (w10.toUInt64 >>> s8).toInt64) (e12 : w12 = w10 + w11) (e13 : w13 = (w12.toUInt64 >>> s16).toInt64) (e14 : w14 = w12 + w13) (e15 : w15 = (w14.toUInt64 >>> s32).toInt64) (e16 : w16 = w14 + w15)
    (h : 0 ≤ a0.toInt ∧ a0.toInt < 1152921504606846976) : (w16.toInt32 &&& 127).toInt ≤ 60 := by
  obtain ⟨n, hn⟩ : ∃ n : Nat, a0.toInt = (n : Int) := ⟨a0.toInt.toNat, by omega⟩
  obtain ⟨i1, i2, i3, j1, jl, j2, j3, k2, k3, kk⟩ := bcN (n := n) (show n < 1152921504606846976 by omega)
  have k3' : i3 < 1152921504606846976 := k3
  have f1 : w1.toInt = ((n / 2 : Nat) : Int) := by rw [e1]; exact L_ushr hn t1 (by decide)
  have f2 : w2.toInt = ((n / 2 &&& 6148914691236517205 : Nat) : Int) := by rw [e2]; exact L_and f1 (by decide)
  have f3 : w3.toInt = (i1 : Int) := by rw [e3, l_sub hn f2 (by omega)]; omega
  have f4 : w4.toInt = ((i1 &&& 3689348814741910323 : Nat) : Int) := by rw [e4]; exact L_and f3 (by decide)
  have f5 : w5.toInt = ((i1 / 4 : Nat) : Int) := by rw [e5]; exact L_ushr f3 t2 (by decide)
  have f6 : w6.toInt = ((i1 / 4 &&& 3689348814741910323 : Nat) : Int) := by rw [e6]; exact L_and f5 (by decide)
  have f7 : w7.toInt = (i2 : Int) := by rw [e7, l_add f4 f6 (by omega)]; omega
  have f8 : w8.toInt = ((i2 / 16 : Nat) : Int) := by rw [e8]; exact L_ushr f7 t4 (by decide)
  have f9 : w9.toInt = ((i2 + i2 / 16 : Nat) : Int) := by rw [e9, l_add f7 f8 (by omega)]; omega
  have f10 : w10.toInt = (i3 : Int) := by rw [e10, j3]; exact L_and f9 (by decide)
  have f11 : w11.toInt = ((i3 / 256 : Nat) : Int) := by rw [e11]; exact L_ushr f10 t8 (by decide)
  have f12 : w12.toInt = ((i3 + i3 / 256 : Nat) : Int) := by rw [e12, l_add f10 f11 (by omega)]; omega
  generalize hd : i3 + i3 / 256 = d at f12 kk
  have f13 : w13.toInt = ((d / 65536 : Nat) : Int) := by rw [e13]; exact L_ushr f12 t16 (by decide)
  have f14 : w14.toInt = ((d + d / 65536 : Nat) : Int) := by rw [e14, l_add f12 f13 (by omega)]; omega
  have hd2 : d < 1157425104234217472 + 1 := by omega
  generalize he : d + d / 65536 = q at f14 kk
  have f15 : w15.toInt = ((q / 4294967296 : Nat) : Int) := by rw [e15]; exact L_ushr f14 t32 (by decide)
  have f16 : w16.toInt = ((q + q / 4294967296 : Nat) : Int) := by rw [e16, l_add f14 f15 (by omega)]; omega
  rw [L_127 f16]
  omega
/-- the mask of the first seconds -/
theorem mask60 {b y m w : Int64} {s : Int64} (hy : 0 ≤ y.toInt ∧ y.toInt ≤ 59) (hm : m = (2 : Int64) <<< ((y.toInt32).toInt64 &&& 63)) (hs : s = m - 1) (hw : w = b &&& s) : 0 ≤ w.toInt ∧ w.toInt < 1152921504606846976 := by
  have hv : 0 ≤ s.toInt ∧ s.toInt < 1152921504606846976 := by
    obtain ⟨n, hn, ey⟩ : ∃ n : Nat, n ≤ 59 ∧ y = Int64.ofNat n := by
      refine ⟨y.toInt.toNat, by omega, Int64.toInt_inj.mp ?_⟩
      rw [Int64.toInt_ofNat_of_lt (by omega)]
      omega
    have : ∀ n, n ≤ 59 → 0 ≤ ((2 : Int64) <<< (((Int64.ofNat n).toInt32).toInt64 &&& 63) - 1).toInt ∧ ((2 : Int64) <<< (((Int64.ofNat n).toInt32).toInt64 &&& 63) - 1).toInt < 1152921504606846976 := by decide +kernel
    rw [hs, hm, ey]
    exact this n hn
  obtain ⟨h1, h2⟩ := nn64 (x := s) hv.1
  have e : w.toBitVec.toNat ≤ s.toBitVec.toNat := by
    rw [hw]
    show (b.toBitVec &&& s.toBitVec).toNat ≤ _
    rw [BitVec.toNat_and]
    exact Nat.and_le_right
  have e2 := of64 (x := w) rfl (by omega)
  omega
