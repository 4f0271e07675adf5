/-! what image, back, write and paste answer, and what rows they leave -/
def s_image (k : Int) : Int32 := if 0 ≤ k ∧ k ≤ 2 then 0 else -2
def imgR (f : Nat → Int32) (k : Int32) : Nat → Int32 := if 0 ≤ k.toInt ∧ k.toInt ≤ 2 then upd f k.toNatClampNeg 1 else f
def s_back (k : Int) (v : Int) : Int32 := if 0 ≤ k ∧ k ≤ 2 then (if v = 0 then -6 else 0) else -2
def okRow (s w n : Int) : Prop := 0 ≤ s ∧ s ≤ 3 ∧ 0 ≤ w ∧ w ≤ 3 ∧ 0 ≤ n ∧ n ≤ 60
def rowR (f : Nat → Int32) (s w n : Int32) (v : Int32) : Nat → Int32 := if 0 ≤ s.toInt ∧ s.toInt ≤ 3 ∧ 0 ≤ w.toInt ∧ w.toInt ≤ 3 ∧ 0 ≤ n.toInt ∧ n.toInt ≤ 60 then upd f s.toNatClampNeg v else f
def s_write (s i len : Int) : Int32 := if 0 ≤ s ∧ s ≤ 3 then (if len = -1 then -6 else if 0 ≤ i ∧ i < len then 0 else -7) else -2
def s_paste (s i t k n ls lt ws wt : Int) : Int32 := if 0 ≤ s ∧ s ≤ 3 ∧ 0 ≤ t ∧ t ≤ 3 then (if ls = -1 ∨ lt = -1 then -6 else if ws = wt then (if 0 ≤ i ∧ 0 ≤ k ∧ 0 ≤ n ∧ i + n ≤ ls ∧ k + n ≤ lt then 0 else -7) else -8) else -2
theorem bo1 : vp_nar .boolean (1 : Int32) = 1 := by decide
theorem img_row {f g : Nat → Int32} {k : Int32} (hk : 0 ≤ k.toInt ∧ k.toInt ≤ 2) (e : g = upd f k.toNatClampNeg (vp_nar .boolean (1 : Int32))) : g = imgR f k := by
  unfold imgR
  rw [if_pos hk, e, bo1]
def REL (h : PH) : Prop := (∀ j, j < 3 → h.1 65 j = h.1 99 j) ∧ (∀ j, j < 4 → h.1 68 j = h.1 127 j) ∧ (∀ j, j < 4 → h.1 69 j = h.1 128 j)
theorem REL_fr {V W : List Nat} {h h1 h2 : PH} (a : FR V h h1) (b : FR W h1 h2) (hv : [65, 68, 69, 99, 127, 128].all (fun k => !V.contains k) = true) (hw : [65, 68, 69, 99, 127, 128].all (fun k => !W.contains k) = true) (r : REL h) : REL h2 := by
  have key : ∀ k, k ∈ [65, 68, 69, 99, 127, 128] → h2.1 k = h.1 k := fun k hk => by
    have q1 := List.all_eq_true.mp hv k hk
    have q2 := List.all_eq_true.mp hw k hk
    exact ((b k (by simpa using q2)).1).trans ((a k (by simpa using q1)).1)
  unfold REL
  rw [key 65 (by decide), key 68 (by decide), key 69 (by decide), key 99 (by decide), key 127 (by decide), key 128 (by decide)]
  exact r
theorem REL_img {V W : List Nat} {h h1 h2 : PH} {k : Int32} (a : FR V h h1) (b : FR W h1 h2) (hv : [68, 69, 99, 127, 128].all (fun k => !V.contains k) = true) (hw : [65, 68, 69, 127, 128].all (fun k => !W.contains k) = true) (e1 : h1.1 65 = imgR (h.1 65) k) (e2 : h2.1 99 = imgR (h1.1 99) k) (r : REL h) : REL h2 := by
  have k1 : ∀ k, k ∈ [68, 69, 99, 127, 128] → h1.1 k = h.1 k := fun k hk => (a k (by simpa using List.all_eq_true.mp hv k hk)).1
  have k2 : ∀ k, k ∈ [65, 68, 69, 127, 128] → h2.1 k = h1.1 k := fun k hk => (b k (by simpa using List.all_eq_true.mp hw k hk)).1
  unfold REL
  rw [k2 65 (by decide), k2 68 (by decide), k2 69 (by decide), k2 127 (by decide), k2 128 (by decide), e2, e1, k1 68 (by decide), k1 69 (by decide), k1 99 (by decide), k1 127 (by decide), k1 128 (by decide)]
  refine ⟨fun j hj => ?_, r.2.1, r.2.2⟩
  unfold imgR
  split
  · unfold upd
    split
    · rfl
    · exact r.1 j hj
  · exact r.1 j hj
theorem REL_row {V W : List Nat} {h h1 h2 : PH} {s w n : Int32} (a : FR V h h1) (b : FR W h1 h2) (hv : [65, 99, 127, 128].all (fun k => !V.contains k) = true) (hw : [65, 68, 69, 99].all (fun k => !W.contains k) = true) (e1 : h1.1 68 = rowR (h.1 68) s w n n) (e2 : h1.1 69 = rowR (h.1 69) s w n w) (e3 : h2.1 127 = rowR (h1.1 127) s w n n) (e4 : h2.1 128 = rowR (h1.1 128) s w n w) (r : REL h) : REL h2 := by
  have k1 : ∀ k, k ∈ [65, 99, 127, 128] → h1.1 k = h.1 k := fun k hk => (a k (by simpa using List.all_eq_true.mp hv k hk)).1
  have k2 : ∀ k, k ∈ [65, 68, 69, 99] → h2.1 k = h1.1 k := fun k hk => (b k (by simpa using List.all_eq_true.mp hw k hk)).1
  unfold REL
  rw [k2 65 (by decide), k2 68 (by decide), k2 69 (by decide), k2 99 (by decide), e3, e4, e1, e2, k1 65 (by decide), k1 99 (by decide), k1 127 (by decide), k1 128 (by decide)]
  refine ⟨r.1, fun j hj => ?_, fun j hj => ?_⟩
  · unfold rowR
    split
    · unfold upd
      split
      · rfl
      · exact r.2.1 j hj
    · exact r.2.1 j hj
  · unfold rowR
    split
    · unfold upd
      split
      · rfl
      · exact r.2.2 j hj
    · exact r.2.2 j hj
theorem row_of {f g : Nat → Int32} {s w n v : Int32} (hk : 0 ≤ s.toInt ∧ s.toInt ≤ 3 ∧ 0 ≤ w.toInt ∧ w.toInt ≤ 3 ∧ 0 ≤ n.toInt ∧ n.toInt ≤ 60) (e : g = upd f s.toNatClampNeg v) : g = rowR f s w n v := by
  unfold rowR
  rw [if_pos hk, e]
theorem row_no {f g : Nat → Int32} {s w n v : Int32} (hk : ¬ (0 ≤ s.toInt ∧ s.toInt ≤ 3 ∧ 0 ≤ w.toInt ∧ w.toInt ≤ 3 ∧ 0 ≤ n.toInt ∧ n.toInt ≤ 60)) (e : g = f) : g = rowR f s w n v := by
  unfold rowR
  rw [if_neg hk, e]
theorem back_eq {h h1 : PH} {k : Int32} (r : REL h) (e : h1.1 99 = h.1 99) : s_back k.toInt (h.1 65 k.toNatClampNeg).toInt = s_back k.toInt (h1.1 99 k.toNatClampNeg).toInt := by
  unfold s_back
  by_cases c : 0 ≤ k.toInt ∧ k.toInt ≤ 2
  · rw [if_pos c, if_pos c, e, r.1 _ (nlt ⟨c.1, by omega⟩)]
  · rw [if_neg c, if_neg c]
theorem write_eq {h h1 : PH} {s i : Int32} (r : REL h) (e : h1.1 127 = h.1 127) : s_write s.toInt i.toInt (h.1 68 s.toNatClampNeg).toInt = s_write s.toInt i.toInt (h1.1 127 s.toNatClampNeg).toInt := by
  unfold s_write
  by_cases c : 0 ≤ s.toInt ∧ s.toInt ≤ 3
  · rw [if_pos c, if_pos c, e, r.2.1 _ (nlt ⟨c.1, by omega⟩)]
  · rw [if_neg c, if_neg c]
theorem paste_eq {h h1 : PH} {s i t k n : Int32} (r : REL h) (e : h1.1 127 = h.1 127) (e2 : h1.1 128 = h.1 128) : s_paste s.toInt i.toInt t.toInt k.toInt n.toInt (h.1 68 s.toNatClampNeg).toInt (h.1 68 t.toNatClampNeg).toInt (h.1 69 s.toNatClampNeg).toInt (h.1 69 t.toNatClampNeg).toInt = s_paste s.toInt i.toInt t.toInt k.toInt n.toInt (h1.1 127 s.toNatClampNeg).toInt (h1.1 127 t.toNatClampNeg).toInt (h1.1 128 s.toNatClampNeg).toInt (h1.1 128 t.toNatClampNeg).toInt := by
  unfold s_paste
  by_cases c : 0 ≤ s.toInt ∧ s.toInt ≤ 3 ∧ 0 ≤ t.toInt ∧ t.toInt ≤ 3
  · rw [if_pos c, if_pos c, e, e2, r.2.1 _ (nlt (x := s) ⟨c.1, by omega⟩), r.2.1 _ (nlt (x := t) ⟨c.2.2.1, by omega⟩), r.2.2 _ (nlt (x := s) ⟨c.1, by omega⟩), r.2.2 _ (nlt (x := t) ⟨c.2.2.1, by omega⟩)]
  · rw [if_neg c, if_neg c]
