/-! the reference's reader -/
theorem nepl {x : Int32} {c : Nat} (h : (c : Int) < x.toInt) : c ≠ x.toNatClampNeg := by
  have := pcl (x := x) (by omega)
  omega
theorem bnd_tabp : ∀ n, n < 6 → bnd 102 (11 + 2 * n) = (0, 6) := by decide
theorem bnd_tabe : ∀ n, n < 6 → bnd 102 (12 + 2 * n) = (-2147483648, 2147483647) := by decide
theorem bnd_tabq : ∀ n, n < 45 → bnd 102 (23 + n) = (-2147483648, 2147483647) := by decide
theorem bnd_hp {x : Int32} (h : 11 ≤ x.toInt ∧ x.toInt ≤ 21 ∧ x.toInt % 2 = 1) : bnd 102 x.toNatClampNeg = (0, 6) := by
  have e := pcl (x := x) (by omega)
  rw [show x.toNatClampNeg = 11 + 2 * ((x.toNatClampNeg - 11) / 2) by omega]
  exact bnd_tabp _ (by omega)
theorem bnd_he {x : Int32} (h : 12 ≤ x.toInt ∧ x.toInt ≤ 22 ∧ x.toInt % 2 = 0) : bnd 102 x.toNatClampNeg = (-2147483648, 2147483647) := by
  have e := pcl (x := x) (by omega)
  rw [show x.toNatClampNeg = 12 + 2 * ((x.toNatClampNeg - 12) / 2) by omega]
  exact bnd_tabe _ (by omega)
theorem bnd_hq {x : Int32} (h : 23 ≤ x.toInt ∧ x.toInt ≤ 67) : bnd 102 x.toNatClampNeg = (-2147483648, 2147483647) := by
  have e := pcl (x := x) (by omega)
  rw [show x.toNatClampNeg = 23 + (x.toNatClampNeg - 23) by omega]
  exact bnd_tabq _ (by omega)
def seeF (h : PH) (i : Int32) : Int32 := if i.toInt < (h.1 96 7).toInt then h.1 100 i.toNatClampNeg &&& 255 else -1
theorem seeF_w {h : PH} {j : Nat} {x : Int32} (hj : 7 ≠ j) : seeF (wI h 96 j x) = seeF h := by
  funext i
  unfold seeF
  rw [wI_at hj, wI_ne _ _ _ (by decide)]
def mbr (fk tok at' : Int) : Nat := if fk = 0 ∧ tok ≠ 0 then (502 - at').toNat else 0
theorem mbr_lt {fk tok a fk' tok' a' : Int} {n : Nat} (hz : mbr fk tok a < n + 1) (h1 : fk = 0) (h2 : tok ≠ 0) (ha : a ≤ 500) (h : fk' = 0 → tok' = 0 ∨ a + 1 ≤ a') : mbr fk' tok' a' < n := by
  unfold mbr at *
  rw [if_pos ⟨h1, h2⟩] at hz
  split
  · rename_i c
    have := h c.1
    omega
  · omega
theorem b97102 : ∀ j, j < 68 → bnd 102 j = bnd 97 j := by decide
theorem INV_brig {h : PH} (hI : INV h) (h9 : (h.1 102 9).toInt = 0) (h0 : 1 ≤ (h.1 102 0).toInt ∨ ((h.1 102 10).toInt = 0 ∧ (h.1 102 5).toInt = 0)) : INV (mixI h 97 102 0 0 68) := by
  have e97 : (mixI h 97 102 0 0 68).1 97 = mixR (h.1 97) (h.1 102) 0 0 68 := cI_self _ _ _
  have e98 : (mixI h 97 102 0 0 68).1 98 = h.1 98 := mixI_ne (by decide)
  have em : ∀ j, j < 68 → mixR (h.1 97) (h.1 102) 0 0 68 j = h.1 102 j := fun j hj => by
    unfold mixR
    rw [if_pos (by omega)]
    exact congrArg (h.1 102) (by omega)
  refine ⟨IB_cI hI.1 (fun j => ?_), EX_iff (h := h) (mixI_ne (by decide)) (mixI_ne (by decide)) (mixI_ne (by decide)) (mixI_ne (by decide)) hI.2 ?_ (by rw [e98]; exact hI.2.2.2.2.2.2.1) (by rw [e98]; exact hI.2.2.2.2.2.2.2.1) (by rw [e98]; exact hI.2.2.2.2.2.2.2.2)⟩
  · by_cases c : j < 68
    · rw [em j c, ← b97102 j c]
      exact hI.1 102 j
    · unfold mixR
      rw [if_neg (by omega)]
      exact hI.1 97 j
  · rw [e97]
    refine ⟨fun j hj => ?_, fun hj => ?_, fun hj => ?_⟩
    · rw [em _ (by omega)] at hj
      exact absurd hj (by rw [h9]; omega)
    · rw [em _ (by omega)] at hj
      rw [em _ (by omega)]
      rcases h0 with c | c
      · exact c
      · exact absurd hj (by rw [show 0 + 10 = 10 from rfl, c.1]; decide)
    · rw [em _ (by omega)] at hj
      rw [em _ (by omega)]
      rcases h0 with c | c
      · exact c
      · exact absurd hj (by rw [show 0 + 5 = 5 from rfl, c.2]; decide)
