/-! helpers of layRound's methods -/
def AIS (h : PH) : Prop := ∀ j : Nat, j < 6 → (0 ≤ (h.1 103 j).toInt ∧ (h.1 103 j).toInt ≤ 6) ∧ (h.1 105 j).toInt = (j : Int)
theorem AIS_o {h : PH} {k j : Nat} {x : Int32} (hk : 103 ≠ k ∧ 105 ≠ k) (h0 : AIS h) : AIS (wI h k j x) := by
  intro i hi
  rw [wI_ne _ _ _ hk.1, wI_ne _ _ _ hk.2]
  exact h0 i hi
theorem AIS_103 {h : PH} {j : Nat} {x : Int32} (hx : 0 ≤ x.toInt ∧ x.toInt ≤ 6) (h0 : AIS h) : AIS (wI h 103 j x) := by
  intro i hi
  rw [wI_self, wI_ne _ _ _ (show 105 ≠ 103 by decide)]
  refine ⟨?_, (h0 i hi).2⟩
  unfold upd
  split
  · exact hx
  · exact (h0 i hi).1
theorem pace_at {h : PH} (hI : INV h) {i : Int32} {x : Int} (hx : 0 ≤ x ∧ x ≤ 5) (hi : i.toInt = 11 + 2 * x) : 0 ≤ (h.1 97 i.toNatClampNeg).toInt ∧ (h.1 97 i.toNatClampNeg).toInt ≤ 6 := by
  have e : i.toNatClampNeg = 11 + 2 * x.toNat := by
    have := pcl (x := i) (by omega)
    omega
  have hb : ∀ q, q ≤ 5 → bnd 97 (11 + 2 * q) = (0, 6) := by decide
  have := hI.1 97 i.toNatClampNeg
  rw [e, hb x.toNat (by omega)] at this
  rw [e]
  exact this
/-- a row filled one by one -/
theorem ks_step {f F : Nat → Int32} {x x' w : Int32} (inv : ∀ j : Nat, (j : Int) < x.toInt → f j = F j) (hw : w = F x.toNatClampNeg) (h0 : 0 ≤ x.toInt) (hx : x'.toInt = x.toInt + 1) : ∀ j : Nat, (j : Int) < x'.toInt → upd f x.toNatClampNeg w j = F j := by
  intro j hj
  have e := pcl (x := x) h0
  unfold upd
  by_cases c : j = x.toNatClampNeg
  · rw [if_pos c, hw, c]
  · rw [if_neg c]
    exact inv j (by omega)
theorem i6 {i x : Int32} (hi : i.toInt = 6 + x.toInt) (h0 : 0 ≤ x.toInt) : i.toNatClampNeg = 6 + x.toNatClampNeg := by
  have e := pcl (x := x) h0
  have e2 := pcl (x := i) (by omega)
  omega
theorem ks_step2 {f F : Nat → Int32} {x x' i w : Int32} (inv : ∀ j : Nat, (j : Int) < x.toInt → f (6 + j) = F j) (hw : w = F x.toNatClampNeg) (h0 : 0 ≤ x.toInt) (hx : x'.toInt = x.toInt + 1) (hi : i.toInt = 6 + x.toInt) : ∀ j : Nat, (j : Int) < x'.toInt → upd f i.toNatClampNeg w (6 + j) = F j := by
  intro j hj
  have e := pcl (x := x) h0
  rw [i6 hi h0]
  unfold upd
  by_cases c : 6 + j = 6 + x.toNatClampNeg
  · rw [if_pos c, hw, show j = x.toNatClampNeg by omega]
  · rw [if_neg c]
    exact inv j (by omega)
theorem ks_keep {f G : Nat → Int32} {x i w : Int32} (inv : ∀ j : Nat, j < 6 → f j = G j) (h0 : 0 ≤ x.toInt) (hi : i.toInt = 6 + x.toInt) : ∀ j : Nat, j < 6 → upd f i.toNatClampNeg w j = G j := by
  intro j hj
  rw [i6 hi h0]
  unfold upd
  rw [if_neg (by omega)]
  exact inv j hj
theorem al_step {f g : Nat → Int32} {x x' : Int32} (inv : ∀ j : Nat, (j : Int) < x.toInt → f j = g j) (hw : f x.toNatClampNeg = g x.toNatClampNeg) (h0 : 0 ≤ x.toInt) (hx : x'.toInt = x.toInt + 1) : ∀ j : Nat, (j : Int) < x'.toInt → f j = g j := by
  intro j hj
  have e := pcl (x := x) h0
  by_cases c : j = x.toNatClampNeg
  · rw [c]; exact hw
  · exact inv j (by omega)
/-! rows of states -/
def RW (P : Nat → Int) (f : Nat → Int32) (s : WS) : Prop := (∀ j : Nat, j < 6 → (f j).toInt = min (s.1 j) (P j)) ∧ (∀ j : Nat, j < 23 → (f (6 + j)).toInt = s.2 j)
theorem zMin_toInt (x y : Int32) : (zMin x y).toInt = min x.toInt y.toInt := by
  unfold zMin
  split
  · rename_i c
    have := Int32.lt_iff_toInt_lt.mp c
    omega
  · rename_i c
    have : ¬ y.toInt < x.toInt := fun q => c (Int32.lt_iff_toInt_lt.mpr q)
    omega
theorem RW_eq {P : Nat → Int} {f g : Nat → Int32} {s t : WS} (h : RLk P s t) (hf : RW P f s) (hg : RW P g t) : ∀ j : Nat, j < 29 → f j = g j := by
  intro j hj
  apply Int32.toInt_inj.mp
  by_cases c : j < 6
  · rw [hf.1 j c, hg.1 j c]
    exact (h.1 j c).1
  · obtain ⟨i, rfl⟩ : ∃ i, j = 6 + i := ⟨j - 6, by omega⟩
    rw [hf.2 i (by omega), hg.2 i (by omega)]
    exact h.2 i (by omega)
theorem RLk_of_RW {P : Nat → Int} {f g : Nat → Int32} {s t : WS} (hs : ∀ p, p < 6 → -1 ≤ s.1 p) (ht : ∀ p, p < 6 → -1 ≤ t.1 p) (hf : RW P f s) (hg : RW P g t) (e : ∀ j : Nat, j < 29 → f j = g j) : RLk P s t := by
  refine ⟨fun p hp => ⟨?_, hs p hp, ht p hp⟩, fun j hj => ?_⟩
  · rw [← hf.1 p hp, ← hg.1 p hp, e p (by omega)]
  · rw [← hf.2 j hj, ← hg.2 j hj, e (6 + j) (by omega)]
/-- what keepState keeps -/
theorem RW_keep {P : Nat → Int} {e : EV} {k : KY} {f : Nat → Int32} {s : WS} (hP : ∀ p, p < 6 → (ePace e p).toInt = P p) (h1 : ∀ j : Nat, j < 6 → f j = zMin (k.1 j) (e.2.1 j)) (h2 : ∀ j : Nat, j < 23 → f (6 + j) = k.2.2.1 j) (hs : AB k = s) : RW P f s := by
  subst hs
  refine ⟨fun j hj => ?_, fun j hj => ?_⟩
  · rw [h1 j hj, zMin_toInt, ← hP j hj]
    rfl
  · rw [h2 j hj]
    rfl
theorem JM_of_RLk {P : Nat → Int} {m : Nat} {B T : Int} {s t : WS} (hm : m ≤ 6) (hP : ∀ q, q < 6 → 0 ≤ P q ∧ P q ≤ 6) (h : RLk P s t) (ht : JM m B T t) (h6 : ∀ p, p < 6 → s.1 p ≤ 6) : JM m B 6 s := by
  have hi : ∀ p, p < 6 → (s.1 p = -1 ↔ t.1 p = -1) := by
    intro p hp
    have a := h.1 p hp
    have b := hP p hp
    constructor <;> intro c <;> omega
  refine ⟨fun p hp => ⟨(h.1 p hp).2.1, h6 p hp⟩, fun p hp hp6 => (hi p hp6).mpr (ht.2.1 p hp hp6), fun j hj => ?_, ?_⟩
  · rw [h.2 j hj]; exact ht.2.2.1 j hj
  · rw [sm_congr 23 (f := s.2) (g := t.2) (fun j hj => h.2 j hj), sm_congr m (f := ind s.1) (g := ind t.1) (fun p hp => ?_)]
    · exact ht.2.2.2
    · have := hi p (by omega)
      unfold ind
      by_cases c : s.1 p = -1
      · rw [if_pos c, if_pos (this.mp c)]
      · rw [if_neg c, if_neg (fun x => c (this.mpr x))]
/-- a state that was kept, a second on, kept again -/
theorem st_step {e : EV} {m r : Nat} {P : Nat → Int} {B : Int} {i : Nat} {k : KY} {f g : Nat → Int32} (h : EN e m r P) (hP : ∀ q, q < 6 → 0 ≤ P q ∧ P q ≤ 6) (hB : B ≤ 8) (hV : JV m r B ((i : Int) + 1) (wq P m r B i)) (hf : RW P f (wq P m r B i)) (h1 : ∀ j : Nat, j < 6 → k.1 j = f j) (h2 : ∀ j : Nat, j < 23 → k.2.2.1 j = f (6 + j)) (g1 : ∀ j : Nat, j < 6 → g j = zMin ((zSecond e 1 0 k).1 j) (e.2.1 j)) (g2 : ∀ j : Nat, j < 23 → g (6 + j) = (zSecond e 1 0 k).2.2.1 j) : RW P g (wq P m r B (i + 1)) := by
  have hm := h.2.2.2.1
  have hr := h.2.2.2.2.2.1
  have ha : ∀ j, j < 6 → (AB k).1 j = min ((wq P m r B i).1 j) (P j) := fun j hj => by
    show (k.1 j).toInt = _
    rw [h1 j hj]; exact hf.1 j hj
  have hR : RLk P (AB k) (wq P m r B i) := by
    refine ⟨fun p hp => ?_, fun j hj => ?_⟩
    · have a := ha p hp
      have b := hV.1.1 p hp
      have c := hP p hp
      refine ⟨?_, ?_, b.1⟩ <;> omega
    · show (k.2.2.1 j).toInt = _
      rw [h2 j hj]; exact hf.2 j hj
  have hJ := JM_of_RLk hm hP hR hV.1 (fun p hp => by have a := ha p hp; have c := hP p hp; omega)
  have hs := ab_second (n := 1) h (fun q hq => (hP q hq).1) (by decide) hJ (by decide) hB
  rw [if_pos (by decide)] at hs
  have hR2 : RLk P (wSec P m r (AB k)) (wq P m r B (i + 1)) := RLk_sec (fun q hq => (hP q hq).1) hm (by omega) hR
  have hg := RW_keep (e := e) (k := zSecond e 1 0 k) (f := g) h.2.2.2.2.2.2 g1 g2 hs
  refine ⟨fun j hj => ?_, fun j hj => ?_⟩
  · rw [hg.1 j hj]; exact (hR2.1 j hj).1
  · rw [hg.2 j hj]; exact hR2.2 j hj
/-- the search doubles its steps: numbers alone -/
theorem brent {lam mu t kk : Nat} {x R : Int} (hl : 1 ≤ lam) (hm : mu + lam < 2 ^ 29) (h1 : kk ≤ 29) (h2 : x = 2 ^ kk) (h3 : R + 2 ^ kk = (t : Int) + 1) (h4 : 1 ≤ R ∧ R ≤ 2 ^ kk) (h5 : kk = 29 → R ≤ lam) (h6 : kk = 29 → ¬ R = lam) : x ≤ 536870912 ∧ (¬ x = R → R + 1 ≤ 2 ^ kk ∧ (kk = 29 → R + 1 ≤ lam)) ∧ (x = R → kk + 1 ≤ 29 ∧ x * 2 = 2 ^ (kk + 1) ∧ x ≤ 268435456) := by
  have hp : ∀ k, k ≤ 29 → (2 : Int) ^ k ≤ 536870912 := by decide
  have hp2 : ∀ k, k ≤ 28 → (2 : Int) ^ k ≤ 268435456 := by decide
  have a := hp kk h1
  have hm' : mu + lam < 536870912 := hm
  refine ⟨by omega, fun c => ⟨by omega, fun d => ?_⟩, fun c => ?_⟩
  · have := h5 d
    have := h6 d
    omega
  · have hk : kk ≤ 28 := by
      by_cases d : kk = 29
      · have e1 := h5 d
        subst d
        rw [show (2 : Int) ^ 29 = 536870912 by decide] at h2
        omega
      · omega
    refine ⟨by omega, ?_, by rw [h2]; exact hp2 kk hk⟩
    rw [h2, Int.pow_succ]
