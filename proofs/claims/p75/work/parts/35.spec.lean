/-! What a line of hands does in a second, as functions of rows: what is held, the water, the way back, the water thrown; world, paces, rests, line, how many, size, buckets, slips. -/
abbrev KY : Type := (Nat → Int32) × (Nat → Int32) × (Nat → Int32) × Int32
abbrev EV : Type := (Nat → Int32) × (Nat → Int32) × (Nat → Int32) × (Nat → Int32) × Int32 × Int32 × Int32 × (Nat → Int32)
def tr (n : Nat) (f : Nat → Int32) : Nat → Int32 := fun j => if j < n then f j else 0
def kyOf (h : PH) : KY := (tr 6 (h.1 107), tr 6 (h.1 108), tr 23 (h.1 109), h.1 96 35)
def evOf (h : PH) : EV := (h.1 97, h.1 103, h.1 104, h.1 105, h.1 96 18, h.1 96 20, h.1 96 19, h.1 106)
abbrev eWorld (e : EV) : Nat → Int32 := e.1
abbrev ePace (e : EV) : Nat → Int32 := e.2.1
abbrev eRest (e : EV) : Nat → Int32 := e.2.2.1
abbrev eLine (e : EV) : Nat → Int32 := e.2.2.2.1
abbrev eMany (e : EV) : Int32 := e.2.2.2.2.1
abbrev eFull (e : EV) : Int32 := e.2.2.2.2.2.1
abbrev eBuck (e : EV) : Int32 := e.2.2.2.2.2.2.1
abbrev eSlip (e : EV) : Nat → Int32 := e.2.2.2.2.2.2.2
def zRest (e : EV) (x n : Int32) : Int := if n.toInt < 60 then (if (eRest e (6 * n + x).toNatClampNeg).toInt = 0 then 0 else 1) else 0
def zMin (x y : Int32) : Int32 := if y < x then y else x
def zSpill (e : EV) (x : Int32) (k : KY) : KY := (k.1, upd k.2.1 x.toNatClampNeg (k.2.1 x.toNatClampNeg - zMin (k.2.1 x.toNatClampNeg) (eWorld e (11 + 2 * x + 1).toNatClampNeg)), k.2.2)
def zThrow (e : EV) (x : Int32) (k : KY) : KY := (upd k.1 x.toNatClampNeg (-1), upd k.2.1 x.toNatClampNeg 0, upd k.2.2.1 (eWorld e (3 : Int32).toNatClampNeg + 1).toNatClampNeg (k.2.2.1 (eWorld e (3 : Int32).toNatClampNeg + 1).toNatClampNeg + 1), k.2.2.2 + k.2.1 x.toNatClampNeg)
def zGive (x y : Int32) (k : KY) : KY := (upd (upd k.1 y.toNatClampNeg 0) x.toNatClampNeg (-1), upd (upd k.2.1 y.toNatClampNeg (k.2.1 x.toNatClampNeg)) x.toNatClampNeg 0, k.2.2)
def zPlace1 (e : EV) (p n x y : Int32) (k : KY) : KY :=
  if (k.1 x.toNatClampNeg).toInt < (ePace e x.toNatClampNeg).toInt then k
  else if zRest e x n = 0 then
    (if p.toInt = (eMany e).toInt - 1 then zThrow e x (zSpill e x k)
    else if (k.1 y.toNatClampNeg).toInt = -1 then (if zRest e y n = 0 then zGive x y (zSpill e x k) else k) else k)
  else k
def zPlace (e : EV) (p n : Int32) (k : KY) : KY := zPlace1 e p n (eLine e p.toNatClampNeg) (eLine e (p + 1).toNatClampNeg) k
def zPlaces (e : EV) (n : Int32) : Nat → KY → KY
  | 0, k => k
  | m + 1, k => zPlaces e n m (zPlace e (nI m) n k)
def zShN (b : Nat → Int32) (r : Nat) : Nat → Int32 := fun j => if j = 0 then b 0 + b 1 else if j < r then b (j + 1) else b j
def zShift (b : Nat → Int32) : Nat → Int32 := upd (zShN b 22) 22 0
def zPre (n : Int32) (k : KY) : KY := if 0 < n.toInt then (k.1, k.2.1, zShift k.2.2.1, k.2.2.2) else k
def zMid (e : EV) (n s : Int32) (k : KY) : KY := if s.toInt = 0 then zPlaces e n (eMany e).toNatClampNeg (zPre n k) else zPre n k
def zTake1 (e : EV) (n x : Int32) (k : KY) : KY :=
  if 0 < (eMany e).toInt then (if (k.1 x.toNatClampNeg).toInt = -1 then (if zRest e x n = 0 then (if 0 < (k.2.2.1 (0 : Int32).toNatClampNeg).toInt then (upd k.1 x.toNatClampNeg 0, upd k.2.1 x.toNatClampNeg (eFull e), upd k.2.2.1 (0 : Int32).toNatClampNeg (k.2.2.1 (0 : Int32).toNatClampNeg - 1), k.2.2.2) else k) else k) else k) else k
def zTake (e : EV) (n : Int32) (k : KY) : KY := zTake1 e n (eLine e (0 : Int32).toNatClampNeg) k
def zHold1 (e : EV) (n x : Int32) (k : KY) : KY := if (k.1 x.toNatClampNeg).toInt = -1 then k else if zRest e x n = 0 then (upd k.1 x.toNatClampNeg (k.1 x.toNatClampNeg + 1), k.2) else k
def zHolds (e : EV) (n : Int32) : Nat → KY → KY
  | 0, k => k
  | c + 1, k => zHold1 e n (eLine e c) (zHolds e n c k)
def zSecond (e : EV) (n s : Int32) (k : KY) : KY := zHolds e n (eMany e).toNatClampNeg (zTake e n (zMid e n s k))
def zStart (b : Int32) : KY := (tr 6 (fun _ => -1), tr 6 (fun _ => 0), upd (tr 23 (fun _ => 0)) 0 b, 0)
def zRun (e : EV) : Nat → KY
  | 0 => zStart (eBuck e)
  | k + 1 => zSecond e (nI k) (eSlip e k) (zRun e k)
def zTo (e : EV) : Nat → KY
  | 0 => zStart (eBuck e)
  | k + 1 => zSecond e (nI k) 0 (zTo e k)
theorem nlt {x : Int32} {n : Nat} (h : 0 ≤ x.toInt ∧ x.toInt < n) : x.toNatClampNeg < n := by
  have := pcl (x := x) h.1
  omega
theorem tr_at {n j : Nat} {f : Nat → Int32} (h : j < n) : tr n f j = f j := if_pos h
theorem tr_upd {n j : Nat} {f : Nat → Int32} {x : Int32} (h : j < n) : tr n (upd f j x) = upd (tr n f) j x := by
  funext i
  unfold tr upd
  by_cases c : i = j
  · subst c
    rw [if_pos h, if_pos rfl, if_pos rfl]
  · rw [if_neg c, if_neg c]
theorem ky_107 {h : PH} {j : Nat} {x : Int32} (hj : j < 6) : kyOf (wI h 107 j x) = (upd (kyOf h).1 j x, (kyOf h).2) := by
  unfold kyOf
  rw [wI_self, wI_ne _ _ _ (show 108 ≠ 107 by decide), wI_ne _ _ _ (show 109 ≠ 107 by decide), wI_ne _ _ _ (show 96 ≠ 107 by decide), tr_upd hj]
theorem ky_108 {h : PH} {j : Nat} {x : Int32} (hj : j < 6) : kyOf (wI h 108 j x) = ((kyOf h).1, upd (kyOf h).2.1 j x, (kyOf h).2.2) := by
  unfold kyOf
  rw [wI_self, wI_ne _ _ _ (show 107 ≠ 108 by decide), wI_ne _ _ _ (show 109 ≠ 108 by decide), wI_ne _ _ _ (show 96 ≠ 108 by decide), tr_upd hj]
theorem ky_109 {h : PH} {j : Nat} {x : Int32} (hj : j < 23) : kyOf (wI h 109 j x) = ((kyOf h).1, (kyOf h).2.1, upd (kyOf h).2.2.1 j x, (kyOf h).2.2.2) := by
  unfold kyOf
  rw [wI_self, wI_ne _ _ _ (show 107 ≠ 109 by decide), wI_ne _ _ _ (show 108 ≠ 109 by decide), wI_ne _ _ _ (show 96 ≠ 109 by decide), tr_upd hj]
theorem ky_35 {h : PH} {x : Int32} : kyOf (wI h 96 35 x) = ((kyOf h).1, (kyOf h).2.1, (kyOf h).2.2.1, x) := by
  unfold kyOf
  rw [wI_is, wI_ne _ _ _ (show 107 ≠ 96 by decide), wI_ne _ _ _ (show 108 ≠ 96 by decide), wI_ne _ _ _ (show 109 ≠ 96 by decide)]
theorem ky_s {h : PH} {j : Nat} {x : Int32} (hj : 35 ≠ j) : kyOf (wI h 96 j x) = kyOf h := by
  unfold kyOf
  rw [wI_at hj, wI_ne _ _ _ (show 107 ≠ 96 by decide), wI_ne _ _ _ (show 108 ≠ 96 by decide), wI_ne _ _ _ (show 109 ≠ 96 by decide)]
theorem ky_o {h : PH} {k j : Nat} {x : Int32} (hk : 107 ≠ k ∧ 108 ≠ k ∧ 109 ≠ k ∧ 96 ≠ k) : kyOf (wI h k j x) = kyOf h := by
  unfold kyOf
  rw [wI_ne _ _ _ hk.1, wI_ne _ _ _ hk.2.1, wI_ne _ _ _ hk.2.2.1, wI_ne _ _ _ hk.2.2.2]
theorem ev_s {h : PH} {j : Nat} {x : Int32} (hj : 18 ≠ j ∧ 20 ≠ j ∧ 19 ≠ j) : evOf (wI h 96 j x) = evOf h := by
  unfold evOf
  rw [wI_at hj.1, wI_at hj.2.1, wI_at hj.2.2, wI_ne _ _ _ (show 97 ≠ 96 by decide), wI_ne _ _ _ (show 103 ≠ 96 by decide), wI_ne _ _ _ (show 104 ≠ 96 by decide), wI_ne _ _ _ (show 105 ≠ 96 by decide), wI_ne _ _ _ (show 106 ≠ 96 by decide)]
theorem ev_o {h : PH} {k j : Nat} {x : Int32} (hk : 97 ≠ k ∧ 103 ≠ k ∧ 104 ≠ k ∧ 105 ≠ k ∧ 106 ≠ k ∧ 96 ≠ k) : evOf (wI h k j x) = evOf h := by
  unfold evOf
  rw [wI_ne _ _ _ hk.1, wI_ne _ _ _ hk.2.1, wI_ne _ _ _ hk.2.2.1, wI_ne _ _ _ hk.2.2.2.1, wI_ne _ _ _ hk.2.2.2.2.1, wI_ne _ _ _ hk.2.2.2.2.2]
theorem ky_at107 {h : PH} {j : Nat} (hj : j < 6) : h.1 107 j = (kyOf h).1 j := (tr_at hj).symm
theorem ky_at108 {h : PH} {j : Nat} (hj : j < 6) : h.1 108 j = (kyOf h).2.1 j := (tr_at hj).symm
theorem ky_at109 {h : PH} {j : Nat} (hj : j < 23) : h.1 109 j = (kyOf h).2.2.1 j := (tr_at hj).symm
theorem zShN_1 (b : Nat → Int32) : zShN b (1 : Int32).toNatClampNeg = upd b (0 : Int32).toNatClampNeg (b (0 : Int32).toNatClampNeg + b (1 : Int32).toNatClampNeg) := by
  funext j
  show (if j = 0 then b 0 + b 1 else if j < 1 then b (j + 1) else b j) = (if j = 0 then b 0 + b 1 else b j)
  by_cases c : j = 0
  · rw [if_pos c, if_pos c]
  · rw [if_neg c, if_neg c, if_neg (by omega)]
theorem zShN_s {b : Nat → Int32} {x x' y : Int32} (h0 : 1 ≤ x.toInt) (hx : x'.toInt = x.toInt + 1) (hy : y.toInt = x.toInt + 1) : zShN b x'.toNatClampNeg = upd (zShN b x.toNatClampNeg) x.toNatClampNeg (zShN b x.toNatClampNeg y.toNatClampNeg) := by
  have e1 := pcl (x := x) (by omega)
  have e2 := pcl (x := x') (by omega)
  have e3 := pcl (x := y) (by omega)
  have ex : x'.toNatClampNeg = x.toNatClampNeg + 1 := by omega
  have ey : y.toNatClampNeg = x.toNatClampNeg + 1 := by omega
  rw [ex, ey]
  funext j
  unfold zShN upd
  dsimp only
  by_cases c : j = x.toNatClampNeg
  · rw [if_pos c, if_neg (by omega), if_pos (by omega), if_neg (by omega), if_neg (by omega), c]
  · rw [if_neg c]
    by_cases c0 : j = 0
    · rw [if_pos c0, if_pos c0]
    · rw [if_neg c0, if_neg c0]
      by_cases c1 : j < x.toNatClampNeg
      · rw [if_pos c1, if_pos (by omega)]
      · rw [if_neg c1, if_neg (by omega)]
theorem nI_nat {x : Int32} (h : 0 ≤ x.toInt) : nI x.toNatClampNeg = x := by
  have e := pcl (x := x) h
  have := i_rng x
  exact i_of x (by rw [nI_toInt (by omega)]; exact e)
theorem zPlaces_s {e : EV} {n x x' : Int32} {k : KY} (h0 : 0 ≤ x.toInt) (hx : x'.toInt = x.toInt - 1) : zPlaces e n (x.toInt + 1).toNat k = zPlaces e n (x'.toInt + 1).toNat (zPlace e x n k) := by
  have e1 := pcl (x := x) h0
  have ex : (x.toInt + 1).toNat = (x'.toInt + 1).toNat + 1 := by omega
  have ey : (x'.toInt + 1).toNat = x.toNatClampNeg := by omega
  rw [ex]
  show zPlaces e n _ (zPlace e (nI (x'.toInt + 1).toNat) n k) = _
  rw [show nI (x'.toInt + 1).toNat = x by rw [ey]; exact nI_nat h0]
theorem zHolds_s {e : EV} {n x x' : Int32} {k : KY} (h0 : 0 ≤ x.toInt) (hx : x'.toInt = x.toInt + 1) : zHolds e n x'.toNatClampNeg k = zHold1 e n (eLine e x.toNatClampNeg) (zHolds e n x.toNatClampNeg k) := by
  have e1 := pcl (x := x) h0
  have e2 := pcl (x := x') (by omega)
  rw [show x'.toNatClampNeg = x.toNatClampNeg + 1 by omega]
  rfl
theorem zRun_s {e : EV} {x x' : Int32} (h0 : 0 ≤ x.toInt) (hx : x'.toInt = x.toInt + 1) : zRun e x'.toNatClampNeg = zSecond e x (eSlip e x.toNatClampNeg) (zRun e x.toNatClampNeg) := by
  have e1 := pcl (x := x) h0
  have e2 := pcl (x := x') (by omega)
  rw [show x'.toNatClampNeg = x.toNatClampNeg + 1 by omega]
  show zSecond e (nI x.toNatClampNeg) _ _ = _
  rw [nI_nat h0]
theorem zTo_s {e : EV} {x x' : Int32} (h0 : 0 ≤ x.toInt) (hx : x'.toInt = x.toInt + 1) : zTo e x'.toNatClampNeg = zSecond e x 0 (zTo e x.toNatClampNeg) := by
  have e1 := pcl (x := x) h0
  have e2 := pcl (x := x') (by omega)
  rw [show x'.toNatClampNeg = x.toNatClampNeg + 1 by omega]
  show zSecond e (nI x.toNatClampNeg) _ _ = _
  rw [nI_nat h0]
theorem tn1 {x y : Int32} (h : x.toInt + 1 = y.toInt) (h0 : 0 ≤ y.toInt) : (x.toInt + 1).toNat = y.toNatClampNeg := by
  have := pcl (x := y) h0
  omega
theorem up_step {f g : Nat → Int32} {a b : Int32} {x x' : Int32} (hi : ∀ j : Nat, (j : Int) < x.toInt → f j = a ∧ g j = b) (h0 : 0 ≤ x.toInt) (hx : x'.toInt = x.toInt + 1) : ∀ j : Nat, (j : Int) < x'.toInt → upd f x.toNatClampNeg a j = a ∧ upd g x.toNatClampNeg b j = b := by
  intro j hj
  have e := pcl (x := x) h0
  unfold upd
  by_cases c : j = x.toNatClampNeg
  · rw [if_pos c, if_pos c]
    exact ⟨rfl, rfl⟩
  · rw [if_neg c, if_neg c]
    exact hi j (by omega)
theorem up_step1 {f : Nat → Int32} {a : Int32} {x x' : Int32} (hi : ∀ j : Nat, (j : Int) < x.toInt → f j = a) (h0 : 0 ≤ x.toInt) (hx : x'.toInt = x.toInt + 1) : ∀ j : Nat, (j : Int) < x'.toInt → upd f x.toNatClampNeg a j = a := by
  intro j hj
  have e := pcl (x := x) h0
  unfold upd
  by_cases c : j = x.toNatClampNeg
  · rw [if_pos c]
  · rw [if_neg c]
    exact hi j (by omega)
theorem tr_all {n : Nat} {f : Nat → Int32} {a : Int32} (h : ∀ j : Nat, j < n → tr n f j = a) : tr n f = tr n (fun _ => a) := by
  funext j
  by_cases c : j < n
  · rw [h j c]
    exact (if_pos c).symm
  · unfold tr
    rw [if_neg c, if_neg c]
theorem tn2 {x : Int32} {a : Int} (h : x.toInt = a) (h0 : 0 ≤ a) : x.toNatClampNeg = a.toNat := by
  have := pcl (x := x) (by omega)
  omega
