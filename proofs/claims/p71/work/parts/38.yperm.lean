/-! lines in the order of the alphabet -/
def INJ6 (r : Nat → Int32) : Prop := ∀ i j : Nat, i < 6 → j < 6 → r i = r j → i = j
def swp (r : Nat → Int32) (i j : Nat) : Nat → Int32 := upd (upd r i (r j)) j (r i)
theorem INJ6_of {r r' : Nat → Int32} (e : r = r') (i : INJ6 r') : INJ6 r := by rw [e]; exact i
theorem AIS_inj {h : PH} (a : AIS h) : INJ6 (h.1 105) := fun i j hi hj e => by
  have a1 := (a i hi).2
  have a2 := (a j hj).2
  rw [e] at a1
  omega
theorem swp_i {r : Nat → Int32} {i j : Nat} : swp r i j i = r j := by
  unfold swp upd
  by_cases c : i = j
  · rw [if_pos c, c]
  · rw [if_neg c, if_pos rfl]
theorem swp_j {r : Nat → Int32} {i j : Nat} : swp r i j j = r i := if_pos rfl
theorem swp_o {r : Nat → Int32} {i j q : Nat} (h1 : q ≠ i) (h2 : q ≠ j) : swp r i j q = r q := by
  unfold swp upd
  rw [if_neg h2, if_neg h1]
theorem swp_to {r : Nat → Int32} {i j q : Nat} : ∃ p, swp r i j q = r p ∧ (q < 6 → i < 6 → j < 6 → p < 6) ∧ (p = if q = i then j else if q = j then i else q) := by
  refine ⟨_, ?_, ?_, rfl⟩
  · by_cases c1 : q = i
    · rw [if_pos c1, c1]; exact swp_i
    · rw [if_neg c1]
      by_cases c2 : q = j
      · rw [if_pos c2, c2]; exact swp_j
      · rw [if_neg c2]; exact swp_o c1 c2
  · intro a b c
    split
    · exact c
    · split
      · exact b
      · exact a
theorem swp_inj {r : Nat → Int32} {i j : Nat} (h : INJ6 r) (hi : i < 6) (hj : j < 6) : INJ6 (swp r i j) := fun a b ha hb e => by
  obtain ⟨p, p1, p2, p3⟩ := @swp_to r i j a
  obtain ⟨q, q1, q2, q3⟩ := @swp_to r i j b
  rw [p1, q1] at e
  have := h p q (p2 ha hi hj) (q2 hb hi hj) e
  rw [p3, q3] at this
  (repeat' split at this) <;> omega
def LN (r r' : Nat → Int32) (i : Nat) : Prop := INJ6 r' ∧ (∀ j, j < i → r' j = r j) ∧ (r i).toInt < (r' i).toInt
theorem LN_first {r r' : Nat → Int32} {x y v w : Int32} (e : r' = swp r x.toNatClampNeg y.toNatClampNeg) (h : INJ6 r) (hx : 0 ≤ x.toInt) (hxy : x.toInt < y.toInt) (hy : y.toInt < 6) (ev : v = r x.toNatClampNeg) (ew : w = r y.toNatClampNeg) (hv : v.toInt ≤ w.toInt) : LN r r' x.toNatClampNeg := by
  have n1 := nlt (n := 6) ⟨hx, by omega⟩
  have n2 := nlt (n := 6) (x := y) ⟨by omega, by omega⟩
  have nx : (x.toNatClampNeg : Int) = x.toInt := by rw [tn2 (x := x) rfl hx]; omega
  have ny : (y.toNatClampNeg : Int) = y.toInt := by rw [tn2 (x := y) rfl (by omega)]; omega
  rw [e]
  refine ⟨swp_inj h n1 n2, fun j hj => swp_o (by omega) (by omega), ?_⟩
  rw [swp_i, ← ev, ← ew]
  by_cases c : v.toInt = w.toInt
  · have := h _ _ n1 n2 (by rw [← ev, ← ew]; exact Int32.toInt_inj.mp c)
    omega
  · omega
theorem LN_next {r r1 r' : Nat → Int32} {i x y : Int32} (e : r' = swp r1 x.toNatClampNeg y.toNatClampNeg) (h : LN r r1 i.toNatClampNeg) (hi : 0 ≤ i.toInt) (hx : i.toInt < x.toInt) (hx6 : x.toInt < 6) (hy : i.toInt < y.toInt) (hy6 : y.toInt < 6) : LN r r' i.toNatClampNeg := by
  have n1 := nlt (n := 6) (x := x) ⟨by omega, by omega⟩
  have n2 := nlt (n := 6) (x := y) ⟨by omega, by omega⟩
  have ni : (i.toNatClampNeg : Int) = i.toInt := by rw [tn2 (x := i) rfl hi]; omega
  have nx : (x.toNatClampNeg : Int) = x.toInt := by rw [tn2 (x := x) rfl (by omega)]; omega
  have ny : (y.toNatClampNeg : Int) = y.toInt := by rw [tn2 (x := y) rfl (by omega)]; omega
  rw [e]
  refine ⟨swp_inj h.1 n1 n2, fun j hj => ?_, ?_⟩
  · rw [swp_o (by omega) (by omega)]; exact h.2.1 j hj
  · rw [swp_o (by omega) (by omega)]; exact h.2.2
def cd6 (a b c d e f : Nat) : Nat := ((((a * 6 + b) * 6 + c) * 6 + d) * 6 + e) * 6 + f
def ex6 (l : List Nat) : List Nat := (List.range 6).filter (fun x => !l.contains x)
def PL6 : List Nat := (ex6 []).flatMap fun a => (ex6 [a]).flatMap fun b => (ex6 [a, b]).flatMap fun c => (ex6 [a, b, c]).flatMap fun d => (ex6 [a, b, c, d]).flatMap fun e => (ex6 [a, b, c, d, e]).map fun f => cd6 a b c d e f
theorem PL6_len : PL6.length = 720 := by decide +kernel
theorem ex6_mem {x : Nat} {l : List Nat} (h : x < 6) (hl : x ∉ l) : x ∈ ex6 l := by
  unfold ex6
  rw [List.mem_filter]
  refine ⟨List.mem_range.mpr h, ?_⟩
  rw [Bool.not_eq_true', List.contains_eq_mem]
  exact decide_eq_false hl
theorem PL6_mem {a b c d e f : Nat} (ha : a < 6) (hb : b < 6) (hc : c < 6) (hd : d < 6) (he : e < 6) (hf : f < 6) (h1 : b ∉ [a]) (h2 : c ∉ [a, b]) (h3 : d ∉ [a, b, c]) (h4 : e ∉ [a, b, c, d]) (h5 : f ∉ [a, b, c, d, e]) : cd6 a b c d e f ∈ PL6 := by
  unfold PL6
  refine List.mem_flatMap.mpr ⟨a, ex6_mem ha (List.not_mem_nil), ?_⟩
  refine List.mem_flatMap.mpr ⟨b, ex6_mem hb h1, ?_⟩
  refine List.mem_flatMap.mpr ⟨c, ex6_mem hc h2, ?_⟩
  refine List.mem_flatMap.mpr ⟨d, ex6_mem hd h3, ?_⟩
  refine List.mem_flatMap.mpr ⟨e, ex6_mem he h4, ?_⟩
  exact List.mem_map.mpr ⟨f, ex6_mem hf h5, rfl⟩
def cdL (r : Nat → Int32) : Nat := cd6 (r 0).toInt.toNat (r 1).toInt.toNat (r 2).toInt.toNat (r 3).toInt.toNat (r 4).toInt.toNat (r 5).toInt.toNat
def rk6 (n : Nat) : Nat := (PL6.filter (fun x => Nat.blt x n)).length
theorem filt_le {p q : Nat → Bool} (h : ∀ x, p x = true → q x = true) : ∀ l : List Nat, (l.filter p).length ≤ (l.filter q).length := by
  intro l
  induction l with
  | nil => exact Nat.le_refl _
  | cons a l ih =>
    rw [List.filter_cons, List.filter_cons]
    by_cases c : p a = true
    · rw [if_pos c, if_pos (h a c)]
      exact Nat.succ_le_succ ih
    · rw [if_neg c]
      split
      · exact Nat.le_succ_of_le ih
      · exact ih
theorem filt_lt {p q : Nat → Bool} {v : Nat} (h : ∀ x, p x = true → q x = true) (hp : p v = false) (hq : q v = true) : ∀ l : List Nat, v ∈ l → (l.filter p).length < (l.filter q).length := by
  intro l
  induction l with
  | nil => intro h; exact absurd h List.not_mem_nil
  | cons a l ih =>
    intro hv
    rw [List.filter_cons, List.filter_cons]
    rcases List.mem_cons.mp hv with c | c
    · subst c
      rw [if_pos hq, if_neg (by rw [hp]; decide)]
      exact Nat.lt_succ_of_le (filt_le h l)
    · have i := ih c
      by_cases d : p a = true
      · rw [if_pos d, if_pos (h a d)]
        exact Nat.succ_lt_succ i
      · rw [if_neg d]
        split
        · exact Nat.lt_succ_of_lt i
        · exact i
theorem rk6_lt {a b : Nat} (ha : a ∈ PL6) (h : a < b) : rk6 a < rk6 b := by
  unfold rk6
  refine filt_lt (v := a) (fun x hx => ?_) ?_ ?_ PL6 ha
  · rw [Nat.blt_eq] at *; omega
  · cases e : Nat.blt a a with
    | false => rfl
    | true => rw [Nat.blt_eq] at e; omega
  · rw [Nat.blt_eq]; exact h
theorem rk6_top {a : Nat} (ha : a ∈ PL6) : rk6 a < 720 := by
  unfold rk6
  have := filt_lt (v := a) (p := fun x => Nat.blt x a) (q := fun _ => true) (fun x hx => rfl) (by
    show Nat.blt a a = false
    cases e : Nat.blt a a with
    | false => rfl
    | true => rw [Nat.blt_eq] at e; omega) rfl PL6 ha
  rw [show PL6.filter (fun _ => true) = PL6 from List.filter_eq_self.mpr (fun _ _ => rfl), PL6_len] at this
  exact this
def rkL (r : Nat → Int32) : Nat := rk6 (cdL r)
theorem cdL_mem {h : PH} (hI : INV h) (hj : INJ6 (h.1 105)) : cdL (h.1 105) ∈ PL6 := by
  have b : ∀ j, 0 ≤ (h.1 105 j).toInt ∧ (h.1 105 j).toInt ≤ 5 := fun j => hI.1 105 j
  have ne : ∀ i j : Nat, i < 6 → j < 6 → i ≠ j → ¬ (h.1 105 i).toInt.toNat = (h.1 105 j).toInt.toNat := fun i j hi hj' hij e => hij (hj i j hi hj' (Int32.toInt_inj.mp (by have := b i; have := b j; omega)))
  have lt : ∀ j, (h.1 105 j).toInt.toNat < 6 := fun j => by have := b j; omega
  unfold cdL
  refine PL6_mem (lt 0) (lt 1) (lt 2) (lt 3) (lt 4) (lt 5) ?_ ?_ ?_ ?_ ?_
  · simp only [List.mem_cons, List.not_mem_nil, or_false, not_or]
    exact ne 1 0 (by decide) (by decide) (by decide)
  · simp only [List.mem_cons, List.not_mem_nil, or_false, not_or]
    exact ⟨ne 2 0 (by decide) (by decide) (by decide), ne 2 1 (by decide) (by decide) (by decide)⟩
  · simp only [List.mem_cons, List.not_mem_nil, or_false, not_or]
    exact ⟨ne 3 0 (by decide) (by decide) (by decide), ne 3 1 (by decide) (by decide) (by decide), ne 3 2 (by decide) (by decide) (by decide)⟩
  · simp only [List.mem_cons, List.not_mem_nil, or_false, not_or]
    exact ⟨ne 4 0 (by decide) (by decide) (by decide), ne 4 1 (by decide) (by decide) (by decide), ne 4 2 (by decide) (by decide) (by decide), ne 4 3 (by decide) (by decide) (by decide)⟩
  · simp only [List.mem_cons, List.not_mem_nil, or_false, not_or]
    exact ⟨ne 5 0 (by decide) (by decide) (by decide), ne 5 1 (by decide) (by decide) (by decide), ne 5 2 (by decide) (by decide) (by decide), ne 5 3 (by decide) (by decide) (by decide), ne 5 4 (by decide) (by decide) (by decide)⟩
theorem rkL_top {h : PH} (hI : INV h) (hj : INJ6 (h.1 105)) : rkL (h.1 105) < 720 := rk6_top (cdL_mem hI hj)
theorem LN_rk {h h' : PH} (hI : INV h) (hI' : INV h') (hj : INJ6 (h.1 105)) {i : Nat} (hi : i < 6) (hl : LN (h.1 105) (h'.1 105) i) : rkL (h.1 105) < rkL (h'.1 105) := by
  refine rk6_lt (cdL_mem hI hj) ?_
  have b : ∀ j, 0 ≤ (h.1 105 j).toInt ∧ (h.1 105 j).toInt ≤ 5 := fun j => hI.1 105 j
  have b' : ∀ j, 0 ≤ (h'.1 105 j).toInt ∧ (h'.1 105 j).toInt ≤ 5 := fun j => hI'.1 105 j
  obtain ⟨-, l1, l2⟩ := hl
  have s : ∀ j, j < i → (h'.1 105 j).toInt.toNat = (h.1 105 j).toInt.toNat := fun j hj => by rw [l1 j hj]
  have s2 : (h.1 105 i).toInt.toNat < (h'.1 105 i).toInt.toNat := by have := b i; have := b' i; omega
  have t : ∀ j, (h.1 105 j).toInt.toNat < 6 := fun j => by have := b j; omega
  clear b b' l1 l2 hI hI' hj
  unfold cdL cd6
  have t0 := t 0; have t1 := t 1; have t2 := t 2; have t3 := t 3; have t4 := t 4; have t5 := t 5
  clear t
  rcases (show i = 0 ∨ i = 1 ∨ i = 2 ∨ i = 3 ∨ i = 4 ∨ i = 5 by omega) with c | c | c | c | c | c
  · subst c; omega
  · subst c; have := s 0 (by decide); omega
  · subst c; have := s 0 (by decide); have := s 1 (by decide); omega
  · subst c; have := s 0 (by decide); have := s 1 (by decide); have := s 2 (by decide); omega
  · subst c; have := s 0 (by decide); have := s 1 (by decide); have := s 2 (by decide); have := s 3 (by decide); omega
  · subst c; have := s 0 (by decide); have := s 1 (by decide); have := s 2 (by decide); have := s 3 (by decide); have := s 4 (by decide); omega
theorem nl_back {r : Nat → Int32} {i i1 k x y v w : Int32} (ex : x = r i.toNatClampNeg) (ey : y = r i1.toNatClampNeg) (ev : v = r k.toNatClampNeg) (ew : w = r i.toNatClampNeg) (h1 : i1.toInt = i.toInt + 1) (hk : i.toInt + 1 ≤ k.toInt) (hxy : x.toInt ≤ y.toInt) (hvw : v.toInt < w.toInt) : i.toInt + 2 ≤ k.toInt := by
  by_cases c : k.toInt = i1.toInt
  · rw [Int32.toInt_inj.mp c, ← ey] at ev
    rw [← ex] at ew
    rw [ev, ew] at hvw
    omega
  · omega
theorem swp_row {h h1 h2 : PH} {a b v w : Int32} (ev : v = h.1 105 a.toNatClampNeg) (ew : w = h.1 105 b.toNatClampNeg) (g1 : h1 = wI h 105 a.toNatClampNeg w) (g2 : h2 = wI h1 105 b.toNatClampNeg v) : h2.1 105 = swp (h.1 105) a.toNatClampNeg b.toNatClampNeg := by
  rw [g2, wI_self, g1, wI_self, ev, ew]
  rfl
