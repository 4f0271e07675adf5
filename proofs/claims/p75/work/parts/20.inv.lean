/-! Bounds of what every cell holds, what else always holds, and frames. -/
def BT : List (Int × Int × List (Nat × Int × Int)) := [((-2147483648), 2147483647, []),
  ((-2147483648), 2147483647, [(1, 0, 3)]),
  ((-2147483648), 2147483647, [(1, 0, 500)]),
  ((-2147483648), 2147483647, []),
  ((-2147483648), 2147483647, []),
  ((-2147483648), 2147483647, [(5, 0, 6), (6, 0, 5), (9, 0, 30)]),
  ((-2147483648), 2147483647, []),
  ((-2147483648), 2147483647, []),
  ((-2147483648), 2147483647, []),
  ((-2147483648), 2147483647, []),
  (0, 5, []),
  (0, 5, []),
  ((-2147483648), 2147483647, []),
  ((-2147483648), 2147483647, []),
  ((-2147483648), 2147483647, []),
  ((-2147483648), 2147483647, []),
  ((-2147483648), 2147483647, []),
  ((-2147483648), 2147483647, [(0, 0, 60), (5, 0, 6), (6, 0, 5), (9, 0, 30)]),
  ((-2147483648), 2147483647, []),
  ((-2147483648), 2147483647, []),
  ((-2147483648), 2147483647, []),
  ((-2147483648), 2147483647, []),
  (0, 5, []),
  (0, 5, []),
  ((-2147483648), 2147483647, []),
  ((-2147483648), 2147483647, []),
  ((-2147483648), 2147483647, []),
  ((-2147483648), 2147483647, []),
  ((-2147483648), 2147483647, []),
  ((-2147483648), 2147483647, [(0, 0, 60), (5, 0, 6), (6, 0, 5), (9, 0, 30)]),
  ((-2147483648), 2147483647, []),
  ((-2147483648), 2147483647, []),
  ((-2147483648), 2147483647, []),
  ((-2147483648), 2147483647, []),
  (0, 5, []),
  (0, 5, []),
  ((-2147483648), 2147483647, []),
  ((-2147483648), 2147483647, []),
  ((-2147483648), 2147483647, []),
  ((-2147483648), 2147483647, []),
  ((-2147483648), 2147483647, []),
  ((-2147483648), 2147483647, [(0, 0, 60), (5, 0, 6), (6, 0, 5), (9, 0, 30)]),
  ((-2147483648), 2147483647, []),
  ((-2147483648), 2147483647, []),
  ((-2147483648), 2147483647, []),
  ((-2147483648), 2147483647, []),
  (0, 5, []),
  (0, 5, []),
  ((-2147483648), 2147483647, []),
  ((-2147483648), 2147483647, []),
  ((-2147483648), 2147483647, []),
  ((-2147483648), 2147483647, []),
  ((-2147483648), 2147483647, []),
  ((-2147483648), 2147483647, [(0, 0, 60), (5, 0, 6), (6, 0, 5), (9, 0, 30)]),
  ((-2147483648), 2147483647, []),
  ((-2147483648), 2147483647, []),
  ((-2147483648), 2147483647, []),
  ((-2147483648), 2147483647, []),
  (0, 5, []),
  (0, 5, []),
  ((-2147483648), 2147483647, []),
  ((-2147483648), 2147483647, []),
  ((-2147483648), 2147483647, []),
  ((-2147483648), 2147483647, []),
  ((-2147483648), 2147483647, []),
  ((-2147483648), 2147483647, []),
  ((-2147483648), 2147483647, []),
  ((-2147483648), 2147483647, []),
  ((-1), 60, []),
  ((-2147483648), 2147483647, []),
  ((-2147483648), 2147483647, [(4, 0, 6)]),
  ((-2147483648), 2147483647, []),
  ((-2147483648), 2147483647, []),
  ((-2147483648), 2147483647, []),
  ((-2147483648), 2147483647, []),
  ((-2147483648), 2147483647, []),
  ((-2147483648), 2147483647, []),
  ((-2147483648), 2147483647, []),
  ((-2147483648), 2147483647, []),
  ((-2147483648), 2147483647, []),
  ((-2147483648), 2147483647, []),
  ((-2147483648), 2147483647, []),
  ((-2147483648), 2147483647, []),
  ((-2147483648), 2147483647, []),
  ((-2147483648), 2147483647, []),
  ((-2147483648), 2147483647, []),
  ((-2147483648), 2147483647, []),
  ((-2147483648), 2147483647, [(6, 0, 720), (8, 0, 720)]),
  (0, 5, []),
  ((-2147483648), 2147483647, []),
  ((-2147483648), 2147483647, []),
  ((-2147483648), 2147483647, []),
  (0, 719, []),
  ((-2147483648), 2147483647, []),
  ((-2147483648), 2147483647, [(1, 0, 255), (2, 0, 255)]),
  ((-2147483648), 2147483647, []),
  ((-2147483648), 2147483647, [(5, 0, 500), (7, 0, 500), (8, 0, 500), (9, 0, 500), (12, 0, 3), (18, 0, 6), (51, 0, 720)]),
  ((-2147483648), 2147483647, [(0, 0, 60), (1, 0, 8), (3, 0, 20), (4, 0, 10), (5, 0, 6), (6, 0, 5), (9, 0, 30), (11, 0, 6), (13, 0, 6), (15, 0, 6), (17, 0, 6), (19, 0, 6), (21, 0, 6)]),
  ((-2147483648), 2147483647, [(0, 0, 60), (1, 0, 8), (3, 0, 20), (4, 0, 10), (5, 0, 6), (6, 0, 5), (9, 0, 30), (11, 0, 6), (13, 0, 6), (15, 0, 6), (17, 0, 6), (19, 0, 6), (21, 0, 6), (68, 0, 60), (69, 0, 8), (71, 0, 20), (72, 0, 10), (73, 0, 6), (74, 0, 5), (77, 0, 30), (79, 0, 6), (81, 0, 6), (83, 0, 6), (85, 0, 6), (87, 0, 6), (89, 0, 6), (136, 0, 60), (137, 0, 8), (139, 0, 20), (140, 0, 10), (141, 0, 6), (142, 0, 5), (145, 0, 30), (147, 0, 6), (149, 0, 6), (151, 0, 6), (153, 0, 6), (155, 0, 6), (157, 0, 6)]),
  ((-2147483648), 2147483647, []),
  ((-2147483648), 2147483647, []),
  ((-2147483648), 2147483647, []),
  ((-2147483648), 2147483647, [(0, 0, 60), (1, 0, 8), (3, 0, 20), (4, 0, 10), (5, 0, 6), (6, 0, 5), (9, 0, 30), (11, 0, 6), (13, 0, 6), (15, 0, 6), (17, 0, 6), (19, 0, 6), (21, 0, 6)]),
  ((-2147483648), 2147483647, []),
  ((-2147483648), 2147483647, []),
  (0, 5, []),
  ((-2147483648), 2147483647, []),
  ((-2147483648), 2147483647, []),
  ((-2147483648), 2147483647, []),
  ((-2147483648), 2147483647, []),
  ((-2147483648), 2147483647, []),
  ((-2147483648), 2147483647, []),
  ((-2147483648), 2147483647, []),
  ((-2147483648), 2147483647, []),
  ((-2147483648), 2147483647, []),
  ((-2147483648), 2147483647, []),
  ((-2147483648), 2147483647, []),
  ((-2147483648), 2147483647, []),
  ((-2147483648), 2147483647, []),
  ((-2147483648), 2147483647, []),
  ((-2147483648), 2147483647, []),
  ((-2147483648), 2147483647, []),
  ((-2147483648), 2147483647, []),
  ((-2147483648), 2147483647, []),
  ((-2147483648), 2147483647, []),
  ((-2147483648), 2147483647, []),
  ((-2147483648), 2147483647, []),
  ((-1), 60, []),
  ((-2147483648), 2147483647, []),
  ((-2147483648), 2147483647, []),
  ((-2147483648), 2147483647, [])]
def bnd (k j : Nat) : Int × Int := match BT[k]? with
  | some (lo, hi, []) => (lo, hi)
  | some (lo, hi, o :: os) => match (o :: os).find? (fun e => e.1 == j) with
    | some e => e.2
    | none => (lo, hi)
  | none => (-2147483648, 2147483647)
def IB (h : PH) : Prop := ∀ k j, (bnd k j).1 ≤ (h.1 k j).toInt ∧ (h.1 k j).toInt ≤ (bnd k j).2
def actOk (x : Int) : Prop := (100 ≤ x ∧ x ≤ 699 ∧ 1 ≤ x % 100 ∧ x % 100 ≤ 6) ∨ (10000 ≤ x ∧ x ≤ 69999)
def EA (f : Nat → Int32) (o : Nat) : Prop := (∀ j : Nat, (j : Int) < (f (o + 9)).toInt → actOk (f (o + 38 + j)).toInt) ∧ (0 < (f (o + 10)).toInt → 1 ≤ (f o).toInt) ∧ (0 < (f (o + 5)).toInt → 1 ≤ (f o).toInt)
def EL (f : Nat → Int32) : Prop := 0 < (f 10).toInt → 1 ≤ (f 0).toInt
def EX (h : PH) : Prop := EL (h.1 17) ∧ EL (h.1 29) ∧ EL (h.1 41) ∧ EL (h.1 53) ∧ EA (h.1 97) 0 ∧ EA (h.1 98) 0 ∧ EA (h.1 98) 68 ∧ EA (h.1 98) 136
def INV (h : PH) : Prop := IB h ∧ EX h
def PROT : List Nat := [17, 29, 41, 53, 97, 98]
theorem EX_of {h h' : PH} (he : ∀ k ∈ PROT, h'.1 k = h.1 k) (hx : EX h) : EX h' := by
  unfold EX at hx ⊢
  rw [he 17 (by decide), he 29 (by decide), he 41 (by decide), he 53 (by decide), he 97 (by decide), he 98 (by decide)]
  exact hx
def FR (W : List Nat) (h h' : PH) : Prop := ∀ k, k ∉ W → h'.1 k = h.1 k ∧ h'.2 k = h.2 k
theorem FR.rf (W : List Nat) (h : PH) : FR W h h := fun _ _ => ⟨rfl, rfl⟩
theorem FR.trans {W V : List Nat} {h h1 h2 : PH} (a : FR W h h1) (b : FR V h1 h2) (hs : V.all (fun k => W.contains k) = true) : FR W h h2 := fun k hk => by
  have hv : k ∉ V := fun z => hk (by have := List.all_eq_true.mp hs k z; simpa using this)
  exact ⟨(b k hv).1.trans (a k hk).1, (b k hv).2.trans (a k hk).2⟩
theorem wI_ne (h : PH) {k q : Nat} (j : Nat) (x : Int32) (hq : q ≠ k) : (wI h k j x).1 q = h.1 q := rI_ne _ _ hq
theorem wI_self (h : PH) (k j : Nat) (x : Int32) : (wI h k j x).1 k = upd (h.1 k) j x := rI_self _ _ _
theorem wL_ne (h : PH) {k q : Nat} (j : Nat) (x : Int64) (hq : q ≠ k) : (wL h k j x).2 q = h.2 q := rL_ne _ _ hq
theorem wL_self (h : PH) (k j : Nat) (x : Int64) : (wL h k j x).2 k = vp_updL (h.2 k) j x := rL_self _ _ _
theorem IB_wI {h : PH} {k j : Nat} {x : Int32} (hI : IB h) (h1 : (bnd k j).1 ≤ x.toInt) (h2 : x.toInt ≤ (bnd k j).2) : IB (wI h k j x) := by
  intro q i
  by_cases hq : q = k
  · subst hq
    rw [wI_self]
    unfold upd
    split
    · rename_i hi
      subst hi
      exact ⟨h1, h2⟩
    · exact hI q i
  · rw [wI_ne h j x hq]
    exact hI q i
theorem INV_wI {h : PH} {k j : Nat} {x : Int32} (hI : INV h) (hk : PROT.contains k = false) (h1 : (bnd k j).1 ≤ x.toInt) (h2 : x.toInt ≤ (bnd k j).2) : INV (wI h k j x) := by
  refine ⟨IB_wI hI.1 h1 h2, EX_of (fun q hq => wI_ne h j x (fun z => ?_)) hI.2⟩
  subst z
  have : PROT.contains q = true := by simpa using hq
  rw [hk] at this
  cases this
theorem upd_ne {f : Nat → Int32} {j i : Nat} {x : Int32} (h : i ≠ j) : upd f j x i = f i := if_neg h
theorem EL_upd {f : Nat → Int32} {j : Nat} {x : Int32} (h : EL f) (h0 : j ≠ 0) (h1 : j ≠ 10) : EL (upd f j x) := by
  unfold EL
  rw [upd_ne (Ne.symm h0), upd_ne (Ne.symm h1)]
  exact h
theorem EA_upd {f : Nat → Int32} {j : Nat} {x : Int32} (h : EA f 0) (h0 : j ≠ 0) (h5 : j ≠ 5) (h9 : j ≠ 9) (h1 : j ≠ 10) (h38 : j < 38) : EA (upd f j x) 0 := by
  unfold EA
  rw [upd_ne (Ne.symm h0), upd_ne (show 0 + 9 ≠ j by omega), upd_ne (show 0 + 10 ≠ j by omega), upd_ne (show 0 + 5 ≠ j by omega)]
  refine ⟨fun i hi => ?_, h.2⟩
  rw [upd_ne (show 0 + 38 + i ≠ j by omega)]
  exact h.1 i hi
/-- places of the told cells that may be written freely -/
def pfree (k j : Nat) : Bool := (decide (k = 17 ∨ k = 29 ∨ k = 41 ∨ k = 53) && decide (j ≠ 0) && decide (j ≠ 10)) || (decide (k = 97) && decide (j ≠ 0) && decide (j ≠ 5) && decide (j ≠ 9) && decide (j ≠ 10) && decide (j < 38))
theorem INV_wP {h : PH} {k j : Nat} {x : Int32} (hI : INV h) (hk : pfree k j = true) (h1 : (bnd k j).1 ≤ x.toInt) (h2 : x.toInt ≤ (bnd k j).2) : INV (wI h k j x) := by
  refine ⟨IB_wI hI.1 h1 h2, ?_⟩
  obtain ⟨a1, a2, a3, a4, a5, a6⟩ := hI.2
  simp only [pfree, Bool.or_eq_true, Bool.and_eq_true, decide_eq_true_eq] at hk
  rcases hk with ⟨⟨hk, n0⟩, n10⟩ | ⟨⟨⟨⟨⟨hk, n0⟩, n5⟩, n9⟩, n10⟩, n38⟩
  · have e97 : ∀ q, q ≠ k → (wI h k j x).1 q = h.1 q := fun q hq => wI_ne h j x hq
    have eS : EL ((wI h k j x).1 k) ∨ True := Or.inr trivial
    rcases hk with rfl | rfl | rfl | rfl
    · refine ⟨by rw [wI_self]; exact EL_upd a1 n0 n10, by rw [e97 29 (by decide)]; exact a2, by rw [e97 41 (by decide)]; exact a3, by rw [e97 53 (by decide)]; exact a4, by rw [e97 97 (by decide)]; exact a5, by rw [e97 98 (by decide)]; exact a6⟩
    · refine ⟨by rw [e97 17 (by decide)]; exact a1, by rw [wI_self]; exact EL_upd a2 n0 n10, by rw [e97 41 (by decide)]; exact a3, by rw [e97 53 (by decide)]; exact a4, by rw [e97 97 (by decide)]; exact a5, by rw [e97 98 (by decide)]; exact a6⟩
    · refine ⟨by rw [e97 17 (by decide)]; exact a1, by rw [e97 29 (by decide)]; exact a2, by rw [wI_self]; exact EL_upd a3 n0 n10, by rw [e97 53 (by decide)]; exact a4, by rw [e97 97 (by decide)]; exact a5, by rw [e97 98 (by decide)]; exact a6⟩
    · refine ⟨by rw [e97 17 (by decide)]; exact a1, by rw [e97 29 (by decide)]; exact a2, by rw [e97 41 (by decide)]; exact a3, by rw [wI_self]; exact EL_upd a4 n0 n10, by rw [e97 97 (by decide)]; exact a5, by rw [e97 98 (by decide)]; exact a6⟩
  · subst hk
    have e97 : ∀ q, q ≠ 97 → (wI h 97 j x).1 q = h.1 q := fun q hq => wI_ne h j x hq
    exact ⟨by rw [e97 17 (by decide)]; exact a1, by rw [e97 29 (by decide)]; exact a2, by rw [e97 41 (by decide)]; exact a3, by rw [e97 53 (by decide)]; exact a4, by rw [wI_self]; exact EA_upd a5 n0 n5 n9 n10 n38, by rw [e97 98 (by decide)]; exact a6⟩
theorem INV_wL {h : PH} {k j : Nat} {x : Int64} (hI : INV h) : INV (wL h k j x) := hI
theorem FR_wI {W : List Nat} {h h' : PH} {k : Nat} (j : Nat) (x : Int32) (a : FR W h h') (hk : W.contains k = true) : FR W h (wI h' k j x) := fun q hq => by
  have hn : q ≠ k := fun z => hq (by subst z; simpa using hk)
  exact ⟨(wI_ne h' j x hn).trans (a q hq).1, (a q hq).2⟩
theorem FR_wL {W : List Nat} {h h' : PH} {k : Nat} (j : Nat) (x : Int64) (a : FR W h h') (hk : W.contains k = true) : FR W h (wL h' k j x) := fun q hq => by
  have hn : q ≠ k := fun z => hq (by subst z; simpa using hk)
  exact ⟨(a q hq).1, (wL_ne h' j x hn).trans (a q hq).2⟩
