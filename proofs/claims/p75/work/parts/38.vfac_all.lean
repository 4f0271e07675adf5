/-! factorial -/
def FI (v k : Int) : Prop := (k = 2 ∧ v = 1) ∨ (k = 3 ∧ v = 2) ∨ (k = 4 ∧ v = 6) ∨ (k = 5 ∧ v = 24) ∨ (k = 6 ∧ v = 120) ∨ (k = 7 ∧ v = 720)
theorem facm {v k : Int32} {k' : Int} (h : FI v.toInt k.toInt) (hk : k.toInt ≤ 6) (hk' : k' = k.toInt + 1) : FI (v * k).toInt k' := by
  have e : (v * k).toInt = v.toInt * k.toInt := by
    refine i_mul rfl rfl ?_
    rcases h with ⟨a, b⟩ | ⟨a, b⟩ | ⟨a, b⟩ | ⟨a, b⟩ | ⟨a, b⟩ | ⟨a, b⟩ <;> rw [a, b] <;> decide
  rw [e, hk']
  unfold FI
  rcases h with ⟨a, b⟩ | ⟨a, b⟩ | ⟨a, b⟩ | ⟨a, b⟩ | ⟨a, b⟩ | ⟨a, b⟩
  all_goals first | (exfalso; omega) | (rw [a, b]; decide)
abbrev qg_X9_factorial (h : PH) (a0 : Int32) : Option PV → PH → Prop := fun r h' => h = h' ∧ ∃ z : Int32, r = some (.inl z) ∧ ((1 ≤ z.toInt ∧ z.toInt ≤ 720))
theorem g_X9_factorial (h : PH) (hI : INV h) (a0 : Int32) (h0a : (-6) ≤ a0.toInt ∧ a0.toInt ≤ 6) : CALL d_X9_factorial [.inl a0] h (qg_X9_factorial h a0) := by
  show RUN d_X9_factorial 0 [(0, .inl a0)] [] h _
  refine R_iconst 1 rfl rfl ?_
  refine R_istore_n (k := 1) rfl [(1, .inl 1), (0, .inl a0)] rfl rfl (by decide) ?_
  refine R_iconst 2 rfl rfl ?_
  refine R_istore_n (k := 2) rfl [(2, .inl 2), (1, .inl 1), (0, .inl a0)] rfl rfl (by decide) ?_
  have lp : ∀ (n : Nat) (v k : Int32), FI v.toInt k.toInt → (8 - k.toInt).toNat < n → RUN d_X9_factorial 4 [(2, .inl k), (1, .inl v), (0, .inl a0)] [] h (qg_X9_factorial h a0) := by
    intro n
    induction n with
    | zero => intro v k m hz; exact absurd hz (Nat.not_lt_zero _)
    | succ n ih =>
      intro v k m hz
      have mb : 2 ≤ k.toInt ∧ k.toInt ≤ 7 ∧ 1 ≤ v.toInt ∧ v.toInt ≤ 720 := by unfold FI at m; omega
      refine R_iload_n (k := 2) rfl rfl rfl ?_
      refine R_iload_n (k := 0) rfl rfl rfl ?_
      refine N_icmp_gt (a := k.toInt) (b := a0.toInt) 19 rfl rfl rfl rfl (fun c4 => ?_) (fun c4 => ?_)
      · refine R_iload_n (k := 1) rfl rfl rfl ?_
        exact R_iret rfl rfl rfl ⟨rfl, _, rfl, by omega⟩
      · refine R_iload_n (k := 1) rfl rfl rfl ?_
        refine R_iload_n (k := 2) rfl rfl rfl ?_
        refine R_imul rfl ?_
        refine R_istore_n (k := 1) rfl [(1, .inl (v * k)), (2, .inl k), (0, .inl a0)] rfl rfl (by decide) ?_
        refine N_iinc (a := k.toInt) (c := 1) (fun w => [(2, .inl w), (1, .inl (v * k)), (0, .inl a0)]) rfl rfl (fun _ => rfl) (by decide) rfl (by decide) (by omega) (fun x6 q7 => ?_)
        refine R_goto 4 rfl rfl ?_
        exact ih (v * k) x6 (facm m (by omega) q7) (by omega)
  exact lp _ 1 2 (Or.inl (by decide)) (Nat.lt_succ_self _)

abbrev qg_X9_bits (h : PH) (a0 : Int32) : Option PV → PH → Prop := fun r h' => h = h' ∧ ∃ z : Int32, r = some (.inl z) ∧ ((0 ≤ z.toInt ∧ z.toInt ≤ 6))
set_option maxHeartbeats 4000000 in
set_option maxRecDepth 100000 in
theorem g_X9_bits (h : PH) (hI : INV h) (a0 : Int32) : CALL d_X9_bits [.inl a0] h (qg_X9_bits h a0) := by
  show RUN d_X9_bits 0 [(0, .inl a0)] [] h _
  have b1 := i_rng a0
  refine R_iconst 0 rfl rfl ?_
  refine R_istore_n (k := 1) rfl [(1, .inl 0), (0, .inl a0)] rfl rfl (by decide) ?_
  refine R_iconst 0 rfl rfl ?_
  refine R_istore_n (k := 2) rfl [(2, .inl 0), (1, .inl 0), (0, .inl a0)] rfl rfl (by decide) ?_
  have lp3 : ∀ (n2 : Nat) (x4 : Int32) (x5 : Int32), 0 ≤ x4.toInt ∧ x4.toInt ≤ 6 → 0 ≤ x5.toInt ∧ x5.toInt ≤ 6 → x4.toInt ≤ x5.toInt + 0 → (6 - x5.toInt).toNat < n2 → RUN d_X9_bits 4 [(2, .inl x5), (1, .inl x4), (0, .inl a0)] [] h (qg_X9_bits h a0) := by
    intro n2
    induction n2 with
    | zero => intro x4 x5 m7 m8 m9 hz; exact absurd hz (Nat.not_lt_zero _)
    | succ n2 ih6 =>
      intro x4 x5 m7 m8 m9 hz
      refine R_iload_n (k := 2) rfl rfl rfl ?_
      refine R_bipush 6 rfl rfl ?_
      refine N_icmp_ge (a := x5.toInt) (b := 6) 24 rfl rfl rfl (by decide) (fun c10 => ?_) (fun c10 => ?_)
      · refine R_iload_n (k := 1) rfl rfl rfl ?_
        exact R_iret rfl rfl rfl ⟨rfl, _, rfl, by omega⟩
      · refine R_iload_n (k := 1) rfl rfl rfl ?_
        refine R_iload_n (k := 0) rfl rfl rfl ?_
        refine R_iload_n (k := 2) rfl rfl rfl ?_
        refine R_ishr rfl ?_
        refine N_any (fun x11 => ?_)
        refine R_iconst 1 rfl rfl ?_
        refine N_iand (b := 1) rfl (by decide) (by omega) (fun x12 q13 => ?_)
        refine N_iadd (a := x4.toInt) (b := x12.toInt) rfl rfl rfl (by omega) (fun x14 q15 => ?_)
        refine R_istore_n (k := 1) rfl [(1, .inl x14), (2, .inl x5), (0, .inl a0)] rfl rfl (by decide) ?_
        refine N_iinc (a := x5.toInt) (c := 1) (fun w => [(2, .inl w), (1, .inl x14), (0, .inl a0)]) rfl rfl (fun _ => rfl) (by decide) rfl (by decide) (by omega) (fun x16 q17 => ?_)
        refine R_goto 4 rfl rfl ?_
        exact RUN_weak (psub_cons rfl (psub_cons rfl (psub_cons rfl (psub_nil _)))) (ih6 x14 x16 (by omega) (by omega) (by omega) (by omega))
  have k18 : (0 : Int32).toInt = 0 := by decide
  have k19 : (0 : Int32).toInt = 0 := by decide
  exact lp3 _ (0 : Int32) (0 : Int32) (by decide) (by decide) (by omega) (Nat.lt_succ_self _)

/-! lines in the order of the alphabet -/
def INJ6 (r : Nat → Int32) : Prop := ∀ i j : Nat, i < 6 → j < 6 → r i = r j → i = j
def swp (r : Nat → Int32) (i j : Nat) : Nat → Int32 := upd (upd r i (r j)) j (r i)
theorem INJ6_of {r r' : Nat → Int32} (e : r = r') (i : INJ6 r') : INJ6 r := by rw [e]; exact i
theorem AIS_inj {h : PH} (a : AIS h) : INJ6 (h.1 105) := fun i j hi hj e => by
  have a1 := (a i hi).2
  have a2 := (a j hj).2
  rw [e] at a1
  omega
theorem swp_i {r : Nat → Int32} {i j : Nat} : swp r i j i = r j := by
  unfold swp upd
  by_cases c : i = j
  · rw [if_pos c, c]
  · rw [if_neg c, if_pos rfl]
theorem swp_j {r : Nat → Int32} {i j : Nat} : swp r i j j = r i := if_pos rfl
theorem swp_o {r : Nat → Int32} {i j q : Nat} (h1 : q ≠ i) (h2 : q ≠ j) : swp r i j q = r q := by
  unfold swp upd
  rw [if_neg h2, if_neg h1]
theorem swp_to {r : Nat → Int32} {i j q : Nat} : ∃ p, swp r i j q = r p ∧ (q < 6 → i < 6 → j < 6 → p < 6) ∧ (p = if q = i then j else if q = j then i else q) := by
  refine ⟨_, ?_, ?_, rfl⟩
  · by_cases c1 : q = i
    · rw [if_pos c1, c1]; exact swp_i
    · rw [if_neg c1]
      by_cases c2 : q = j
      · rw [if_pos c2, c2]; exact swp_j
      · rw [if_neg c2]; exact swp_o c1 c2
  · intro a b c
    split
    · exact c
    · split
      · exact b
      · exact a
theorem swp_inj {r : Nat → Int32} {i j : Nat} (h : INJ6 r) (hi : i < 6) (hj : j < 6) : INJ6 (swp r i j) := fun a b ha hb e => by
  obtain ⟨p, p1, p2, p3⟩ := @swp_to r i j a
  obtain ⟨q, q1, q2, q3⟩ := @swp_to r i j b
  rw [p1, q1] at e
  have := h p q (p2 ha hi hj) (q2 hb hi hj) e
  rw [p3, q3] at this
  (repeat' split at this) <;> omega
def LN (r r' : Nat → Int32) (i : Nat) : Prop := INJ6 r' ∧ (∀ j, j < i → r' j = r j) ∧ (r i).toInt < (r' i).toInt
theorem LN_first {r r' : Nat → Int32} {x y v w : Int32} (e : r' = swp r x.toNatClampNeg y.toNatClampNeg) (h : INJ6 r) (hx : 0 ≤ x.toInt) (hxy : x.toInt < y.toInt) (hy : y.toInt < 6) (ev : v = r x.toNatClampNeg) (ew : w = r y.toNatClampNeg) (hv : v.toInt ≤ w.toInt) : LN r r' x.toNatClampNeg := by
  have n1 := nlt (n := 6) ⟨hx, by omega⟩
  have n2 := nlt (n := 6) (x := y) ⟨by omega, by omega⟩
  have nx : (x.toNatClampNeg : Int) = x.toInt := by rw [tn2 (x := x) rfl hx]; omega
  have ny : (y.toNatClampNeg : Int) = y.toInt := by rw [tn2 (x := y) rfl (by omega)]; omega
  rw [e]
  refine ⟨swp_inj h n1 n2, fun j hj => swp_o (by omega) (by omega), ?_⟩
  rw [swp_i, ← ev, ← ew]
  by_cases c : v.toInt = w.toInt
  · have := h _ _ n1 n2 (by rw [← ev, ← ew]; exact Int32.toInt_inj.mp c)
    omega
  · omega
theorem LN_next {r r1 r' : Nat → Int32} {i x y : Int32} (e : r' = swp r1 x.toNatClampNeg y.toNatClampNeg) (h : LN r r1 i.toNatClampNeg) (hi : 0 ≤ i.toInt) (hx : i.toInt < x.toInt) (hx6 : x.toInt < 6) (hy : i.toInt < y.toInt) (hy6 : y.toInt < 6) : LN r r' i.toNatClampNeg := by
  have n1 := nlt (n := 6) (x := x) ⟨by omega, by omega⟩
  have n2 := nlt (n := 6) (x := y) ⟨by omega, by omega⟩
  have ni : (i.toNatClampNeg : Int) = i.toInt := by rw [tn2 (x := i) rfl hi]; omega
  have nx : (x.toNatClampNeg : Int) = x.toInt := by rw [tn2 (x := x) rfl (by omega)]; omega
  have ny : (y.toNatClampNeg : Int) = y.toInt := by rw [tn2 (x := y) rfl (by omega)]; omega
  rw [e]
  refine ⟨swp_inj h.1 n1 n2, fun j hj => ?_, ?_⟩
  · rw [swp_o (by omega) (by omega)]; exact h.2.1 j hj
  · rw [swp_o (by omega) (by omega)]; exact h.2.2
def cd6 (a b c d e f : Nat) : Nat := ((((a * 6 + b) * 6 + c) * 6 + d) * 6 + e) * 6 + f
def ex6 (l : List Nat) : List Nat := (List.range 6).filter (fun x => !l.contains x)
def PL6 : List Nat := (ex6 []).flatMap fun a => (ex6 [a]).flatMap fun b => (ex6 [a, b]).flatMap fun c => (ex6 [a, b, c]).flatMap fun d => (ex6 [a, b, c, d]).flatMap fun e => (ex6 [a, b, c, d, e]).map fun f => cd6 a b c d e f
theorem PL6_len : PL6.length = 720 := by decide +kernel
theorem ex6_mem {x : Nat} {l : List Nat} (h : x < 6) (hl : x ∉ l) : x ∈ ex6 l := by
  unfold ex6
  rw [List.mem_filter]
  refine ⟨List.mem_range.mpr h, ?_⟩
  rw [Bool.not_eq_true', List.contains_eq_mem]
  exact decide_eq_false hl
theorem PL6_mem {a b c d e f : Nat} (ha : a < 6) (hb : b < 6) (hc : c < 6) (hd : d < 6) (he : e < 6) (hf : f < 6) (h1 : b ∉ [a]) (h2 : c ∉ [a, b]) (h3 : d ∉ [a, b, c]) (h4 : e ∉ [a, b, c, d]) (h5 : f ∉ [a, b, c, d, e]) : cd6 a b c d e f ∈ PL6 := by
  unfold PL6
  refine List.mem_flatMap.mpr ⟨a, ex6_mem ha (List.not_mem_nil), ?_⟩
  refine List.mem_flatMap.mpr ⟨b, ex6_mem hb h1, ?_⟩
  refine List.mem_flatMap.mpr ⟨c, ex6_mem hc h2, ?_⟩
  refine List.mem_flatMap.mpr ⟨d, ex6_mem hd h3, ?_⟩
  refine List.mem_flatMap.mpr ⟨e, ex6_mem he h4, ?_⟩
  exact List.mem_map.mpr ⟨f, ex6_mem hf h5, rfl⟩
def cdL (r : Nat → Int32) : Nat := cd6 (r 0).toInt.toNat (r 1).toInt.toNat (r 2).toInt.toNat (r 3).toInt.toNat (r 4).toInt.toNat (r 5).toInt.toNat
def rk6 (n : Nat) : Nat := (PL6.filter (fun x => Nat.blt x n)).length
theorem filt_le {p q : Nat → Bool} (h : ∀ x, p x = true → q x = true) : ∀ l : List Nat, (l.filter p).length ≤ (l.filter q).length := by
  intro l
  induction l with
  | nil => exact Nat.le_refl _
  | cons a l ih =>
    rw [List.filter_cons, List.filter_cons]
    by_cases c : p a = true
    · rw [if_pos c, if_pos (h a c)]
      exact Nat.succ_le_succ ih
    · rw [if_neg c]
      split
      · exact Nat.le_succ_of_le ih
      · exact ih
theorem filt_lt {p q : Nat → Bool} {v : Nat} (h : ∀ x, p x = true → q x = true) (hp : p v = false) (hq : q v = true) : ∀ l : List Nat, v ∈ l → (l.filter p).length < (l.filter q).length := by
  intro l
  induction l with
  | nil => intro h; exact absurd h List.not_mem_nil
  | cons a l ih =>
    intro hv
    rw [List.filter_cons, List.filter_cons]
    rcases List.mem_cons.mp hv with c | c
    · subst c
      rw [if_pos hq, if_neg (by rw [hp]; decide)]
      exact Nat.lt_succ_of_le (filt_le h l)
    · have i := ih c
      by_cases d : p a = true
      · rw [if_pos d, if_pos (h a d)]
        exact Nat.succ_lt_succ i
      · rw [if_neg d]
        split
        · exact Nat.lt_succ_of_lt i
        · exact i
theorem rk6_lt {a b : Nat} (ha : a ∈ PL6) (h : a < b) : rk6 a < rk6 b := by
  unfold rk6
  refine filt_lt (v := a) (fun x hx => ?_) ?_ ?_ PL6 ha
  · rw [Nat.blt_eq] at *; omega
  · cases e : Nat.blt a a with
    | false => rfl
    | true => rw [Nat.blt_eq] at e; omega
  · rw [Nat.blt_eq]; exact h
theorem rk6_top {a : Nat} (ha : a ∈ PL6) : rk6 a < 720 := by
  unfold rk6
  have := filt_lt (v := a) (p := fun x => Nat.blt x a) (q := fun _ => true) (fun x hx => rfl) (by
    show Nat.blt a a = false
    cases e : Nat.blt a a with
    | false => rfl
    | true => rw [Nat.blt_eq] at e; omega) rfl PL6 ha
  rw [show PL6.filter (fun _ => true) = PL6 from List.filter_eq_self.mpr (fun _ _ => rfl), PL6_len] at this
  exact this
def rkL (r : Nat → Int32) : Nat := rk6 (cdL r)
theorem cdL_mem {h : PH} (hI : INV h) (hj : INJ6 (h.1 105)) : cdL (h.1 105) ∈ PL6 := by
  have b : ∀ j, 0 ≤ (h.1 105 j).toInt ∧ (h.1 105 j).toInt ≤ 5 := fun j => hI.1 105 j
  have ne : ∀ i j : Nat, i < 6 → j < 6 → i ≠ j → ¬ (h.1 105 i).toInt.toNat = (h.1 105 j).toInt.toNat := fun i j hi hj' hij e => hij (hj i j hi hj' (Int32.toInt_inj.mp (by have := b i; have := b j; omega)))
  have lt : ∀ j, (h.1 105 j).toInt.toNat < 6 := fun j => by have := b j; omega
  unfold cdL
  refine PL6_mem (lt 0) (lt 1) (lt 2) (lt 3) (lt 4) (lt 5) ?_ ?_ ?_ ?_ ?_
  · simp only [List.mem_cons, List.not_mem_nil, or_false, not_or]
    exact ne 1 0 (by decide) (by decide) (by decide)
  · simp only [List.mem_cons, List.not_mem_nil, or_false, not_or]
    exact ⟨ne 2 0 (by decide) (by decide) (by decide), ne 2 1 (by decide) (by decide) (by decide)⟩
  · simp only [List.mem_cons, List.not_mem_nil, or_false, not_or]
    exact ⟨ne 3 0 (by decide) (by decide) (by decide), ne 3 1 (by decide) (by decide) (by decide), ne 3 2 (by decide) (by decide) (by decide)⟩
  · simp only [List.mem_cons, List.not_mem_nil, or_false, not_or]
    exact ⟨ne 4 0 (by decide) (by decide) (by decide), ne 4 1 (by decide) (by decide) (by decide), ne 4 2 (by decide) (by decide) (by decide), ne 4 3 (by decide) (by decide) (by decide)⟩
  · simp only [List.mem_cons, List.not_mem_nil, or_false, not_or]
    exact ⟨ne 5 0 (by decide) (by decide) (by decide), ne 5 1 (by decide) (by decide) (by decide), ne 5 2 (by decide) (by decide) (by decide), ne 5 3 (by decide) (by decide) (by decide), ne 5 4 (by decide) (by decide) (by decide)⟩
theorem rkL_top {h : PH} (hI : INV h) (hj : INJ6 (h.1 105)) : rkL (h.1 105) < 720 := rk6_top (cdL_mem hI hj)
theorem LN_rk {h h' : PH} (hI : INV h) (hI' : INV h') (hj : INJ6 (h.1 105)) {i : Nat} (hi : i < 6) (hl : LN (h.1 105) (h'.1 105) i) : rkL (h.1 105) < rkL (h'.1 105) := by
  refine rk6_lt (cdL_mem hI hj) ?_
  have b : ∀ j, 0 ≤ (h.1 105 j).toInt ∧ (h.1 105 j).toInt ≤ 5 := fun j => hI.1 105 j
  have b' : ∀ j, 0 ≤ (h'.1 105 j).toInt ∧ (h'.1 105 j).toInt ≤ 5 := fun j => hI'.1 105 j
  obtain ⟨-, l1, l2⟩ := hl
  have s : ∀ j, j < i → (h'.1 105 j).toInt.toNat = (h.1 105 j).toInt.toNat := fun j hj => by rw [l1 j hj]
  have s2 : (h.1 105 i).toInt.toNat < (h'.1 105 i).toInt.toNat := by have := b i; have := b' i; omega
  have t : ∀ j, (h.1 105 j).toInt.toNat < 6 := fun j => by have := b j; omega
  clear b b' l1 l2 hI hI' hj
  unfold cdL cd6
  have t0 := t 0; have t1 := t 1; have t2 := t 2; have t3 := t 3; have t4 := t 4; have t5 := t 5
  clear t
  rcases (show i = 0 ∨ i = 1 ∨ i = 2 ∨ i = 3 ∨ i = 4 ∨ i = 5 by omega) with c | c | c | c | c | c
  · subst c; omega
  · subst c; have := s 0 (by decide); omega
  · subst c; have := s 0 (by decide); have := s 1 (by decide); omega
  · subst c; have := s 0 (by decide); have := s 1 (by decide); have := s 2 (by decide); omega
  · subst c; have := s 0 (by decide); have := s 1 (by decide); have := s 2 (by decide); have := s 3 (by decide); omega
  · subst c; have := s 0 (by decide); have := s 1 (by decide); have := s 2 (by decide); have := s 3 (by decide); have := s 4 (by decide); omega
theorem nl_back {r : Nat → Int32} {i i1 k x y v w : Int32} (ex : x = r i.toNatClampNeg) (ey : y = r i1.toNatClampNeg) (ev : v = r k.toNatClampNeg) (ew : w = r i.toNatClampNeg) (h1 : i1.toInt = i.toInt + 1) (hk : i.toInt + 1 ≤ k.toInt) (hxy : x.toInt ≤ y.toInt) (hvw : v.toInt < w.toInt) : i.toInt + 2 ≤ k.toInt := by
  by_cases c : k.toInt = i1.toInt
  · rw [Int32.toInt_inj.mp c, ← ey] at ev
    rw [← ex] at ew
    rw [ev, ew] at hvw
    omega
  · omega
theorem swp_row {h h1 h2 : PH} {a b v w : Int32} (ev : v = h.1 105 a.toNatClampNeg) (ew : w = h.1 105 b.toNatClampNeg) (g1 : h1 = wI h 105 a.toNatClampNeg w) (g2 : h2 = wI h1 105 b.toNatClampNeg v) : h2.1 105 = swp (h.1 105) a.toNatClampNeg b.toNatClampNeg := by
  rw [g2, wI_self, g1, wI_self, ev, ew]
  rfl

/-! what was seen, sets of hands -/
def SNP (h : PH) (s : Int32) (m : Int) : Prop := ∀ i : Int, 0 ≤ i → i % 2 = 0 → i < m → 0 ≤ (h.2 129 (60 * s.toInt + i).toNat).toInt ∧ (h.2 129 (60 * s.toInt + i).toNat).toInt ≤ 59
def SNH (h : PH) (s : Int32) : Prop := SNP h s (h.1 127 s.toNatClampNeg).toInt
theorem SNH_of {h h' : PH} {s : Int32} (a : h'.1 127 = h.1 127) (b : h'.2 129 = h.2 129) (p : SNH h s) : SNH h' s := by
  unfold SNH SNP at *
  rw [a, b]
  exact p
theorem SNH_end {h h' : PH} {s x y : Int32} (p : SNP h s x.toInt) (ey : y = h'.1 127 s.toNatClampNeg) (a : h'.1 127 = h.1 127) (hx : y.toInt ≤ x.toInt) : SNH h s := fun i h0 h1 h2 => p i h0 h1 (by rw [ey, a] at hx; omega)
theorem SNP_0 {h : PH} {s : Int32} {m : Int} (hm : m ≤ 0) : SNP h s m := fun i h0 _ h2 => absurd h2 (by omega)
theorem SNP_step {h h' : PH} {s x x' : Int32} {w : Int64} (p : SNP h s x.toInt) (ew : w = h'.2 129 (60 * s.toInt + x.toInt).toNat) (b : h'.2 129 = h.2 129) (hw : 0 ≤ w.toInt ∧ w.toInt ≤ 59) (hx : x'.toInt = x.toInt + 2) (he : x.toInt % 2 = 0) : SNP h s x'.toInt := fun i h0 h1 h2 => by
  by_cases c : i < x.toInt
  · exact p i h0 h1 c
  · rw [show i = x.toInt by omega, ← b, ← ew]
    exact hw
theorem seen_at {h : PH} {s x y v : Int32} {w : Int64} (p : SNH h s) (ey : y = h.1 127 s.toNatClampNeg) (hx : x.toInt < y.toInt) (h0 : 0 ≤ x.toInt) (he : x.toInt % 2 = 0) (ew : w = h.2 129 (60 * s.toInt + x.toInt).toNat) (ev : v = w.toInt32) : 0 ≤ v.toInt ∧ v.toInt ≤ 59 := by
  have q := p x.toInt h0 he (by rw [← ey]; exact hx)
  rw [← ew] at q
  have e : v.toInt = w.toInt := by
    rw [ev, Int64.toInt_toInt32]
    exact Int.bmod_eq_of_le (by omega) (by omega)
  omega
def bc1 (i : Int32) : Int32 := i - ((i.toUInt32 >>> ((1 : Int32).toUInt32 &&& Int32.toUInt32 31)).toInt32 &&& 1431655765)
def bc2 (i : Int32) : Int32 := (i &&& 858993459) + ((i.toUInt32 >>> ((2 : Int32).toUInt32 &&& Int32.toUInt32 31)).toInt32 &&& 858993459)
def bc3 (i : Int32) : Int32 := (i + (i.toUInt32 >>> ((4 : Int32).toUInt32 &&& Int32.toUInt32 31)).toInt32) &&& 252645135
def bc4 (i : Int32) : Int32 := i + (i.toUInt32 >>> ((8 : Int32).toUInt32 &&& Int32.toUInt32 31)).toInt32
def bc5 (i : Int32) : Int32 := i + (i.toUInt32 >>> ((16 : Int32).toUInt32 &&& Int32.toUInt32 31)).toInt32
def bc32 (i : Int32) : Int32 := bc5 (bc4 (bc3 (bc2 (bc1 i)))) &&& 63
theorem nI_sx {x : Int32} (h : 0 ≤ x.toInt) : x = nI x.toInt.toNat := Int32.toInt_inj.mp (by have := i_rng x; rw [nI_toInt (by omega)]; omega)
theorem bc_tab : ∀ n, n < 7 → ∀ s, s < n → ∀ k, k < 2 ^ n → ((nI k &&& (1 <<< (nI s &&& 31))).toInt = 0 → 0 ≤ (bc32 (nI k)).toInt ∧ (bc32 (nI k)).toInt ≤ (n : Int) - 1) := by decide +kernel
theorem sh_tab : ∀ n, n < 7 → ((1 <<< (nI n &&& 31) : Int32) - 1).toInt = (2 : Int) ^ n - 1 := by decide +kernel
theorem bc_lt {set n s mine v A z : Int32} {n' : Int32} (ez : z = bc32 set) (eA : A = (1 <<< (n' &&& 31)) - 1) (hn' : n'.toInt = n.toInt) (em : mine = 1 <<< (s &&& 31)) (ev : v = set &&& mine) (hv : v.toInt = 0) (h0 : 0 ≤ set.toInt) (hA : set.toInt ≤ A.toInt) (hn : 1 ≤ n.toInt ∧ n.toInt ≤ 6) (hs : 0 ≤ s.toInt ∧ s.toInt < n.toInt) : 0 ≤ z.toInt ∧ z.toInt ≤ n.toInt - 1 := by
  have e1 := nI_sx h0
  have e2 : n' = nI n.toInt.toNat := by rw [← hn']; exact nI_sx (by omega)
  have e3 := nI_sx hs.1
  have a := sh_tab n.toInt.toNat (by omega)
  rw [← e2, ← eA] at a
  have hp : ((2 ^ n.toInt.toNat : Nat) : Int) = (2 : Int) ^ n.toInt.toNat := by rw [Int.natCast_pow]; rfl
  have b := bc_tab n.toInt.toNat (by omega) s.toInt.toNat (by omega) set.toInt.toNat (by omega)
  rw [← e1, ← e3, ← em, ← ev, ← ez] at b
  have := b hv
  omega
theorem or_tab : ∀ s, s < 6 → ∀ k, k < 64 → (0 ≤ (nI k ||| (1 <<< (nI s &&& 31))).toInt ∧ (nI k ||| (1 <<< (nI s &&& 31))).toInt ≤ 63) := by decide +kernel
theorem or63 {x s y w : Int32} (ey : y = 1 <<< (s &&& 31)) (ew : w = x ||| y) (hx : 0 ≤ x.toInt ∧ x.toInt ≤ 63) (hs : 0 ≤ s.toInt ∧ s.toInt ≤ 5) : 0 ≤ w.toInt ∧ w.toInt ≤ 63 := by
  have := or_tab s.toInt.toNat (by omega) x.toInt.toNat (by omega)
  rw [← nI_sx hx.1, ← nI_sx hs.1, ← ey, ← ew] at this
  exact this
theorem all_tab : ∀ n, n < 7 → 0 ≤ ((1 <<< (nI n &&& 31) : Int32) - 1).toInt ∧ ((1 <<< (nI n &&& 31) : Int32) - 1).toInt ≤ 63 := by decide +kernel
theorem all63 {A n : Int32} (eA : A = (1 <<< (n &&& 31)) - 1) (hn : 0 ≤ n.toInt ∧ n.toInt ≤ 6) : 0 ≤ A.toInt ∧ A.toInt ≤ 63 := by
  have := all_tab n.toInt.toNat (by omega)
  rw [← nI_sx hn.1, ← eA] at this
  exact this

/-! the reference's reader -/
theorem nepl {x : Int32} {c : Nat} (h : (c : Int) < x.toInt) : c ≠ x.toNatClampNeg := by
  have := pcl (x := x) (by omega)
  omega
theorem bnd_tabp : ∀ n, n < 6 → bnd 102 (11 + 2 * n) = (0, 6) := by decide
theorem bnd_tabe : ∀ n, n < 6 → bnd 102 (12 + 2 * n) = (-2147483648, 2147483647) := by decide
theorem bnd_tabq : ∀ n, n < 45 → bnd 102 (23 + n) = (-2147483648, 2147483647) := by decide
theorem bnd_hp {x : Int32} (h : 11 ≤ x.toInt ∧ x.toInt ≤ 21 ∧ x.toInt % 2 = 1) : bnd 102 x.toNatClampNeg = (0, 6) := by
  have e := pcl (x := x) (by omega)
  rw [show x.toNatClampNeg = 11 + 2 * ((x.toNatClampNeg - 11) / 2) by omega]
  exact bnd_tabp _ (by omega)
theorem bnd_he {x : Int32} (h : 12 ≤ x.toInt ∧ x.toInt ≤ 22 ∧ x.toInt % 2 = 0) : bnd 102 x.toNatClampNeg = (-2147483648, 2147483647) := by
  have e := pcl (x := x) (by omega)
  rw [show x.toNatClampNeg = 12 + 2 * ((x.toNatClampNeg - 12) / 2) by omega]
  exact bnd_tabe _ (by omega)
theorem bnd_hq {x : Int32} (h : 23 ≤ x.toInt ∧ x.toInt ≤ 67) : bnd 102 x.toNatClampNeg = (-2147483648, 2147483647) := by
  have e := pcl (x := x) (by omega)
  rw [show x.toNatClampNeg = 23 + (x.toNatClampNeg - 23) by omega]
  exact bnd_tabq _ (by omega)
def seeF (h : PH) (i : Int32) : Int32 := if i.toInt < (h.1 96 7).toInt then h.1 100 i.toNatClampNeg &&& 255 else -1
theorem seeF_w {h : PH} {j : Nat} {x : Int32} (hj : 7 ≠ j) : seeF (wI h 96 j x) = seeF h := by
  funext i
  unfold seeF
  rw [wI_at hj, wI_ne _ _ _ (by decide)]
def mbr (fk tok at' : Int) : Nat := if fk = 0 ∧ tok ≠ 0 then (502 - at').toNat else 0
theorem mbr_lt {fk tok a fk' tok' a' : Int} {n : Nat} (hz : mbr fk tok a < n + 1) (h1 : fk = 0) (h2 : tok ≠ 0) (ha : a ≤ 500) (h : fk' = 0 → tok' = 0 ∨ a + 1 ≤ a') : mbr fk' tok' a' < n := by
  unfold mbr at *
  rw [if_pos ⟨h1, h2⟩] at hz
  split
  · rename_i c
    have := h c.1
    omega
  · omega
theorem b97102 : ∀ j, j < 68 → bnd 102 j = bnd 97 j := by decide
theorem INV_brig {h : PH} (hI : INV h) (h9 : (h.1 102 9).toInt = 0) (h0 : 1 ≤ (h.1 102 0).toInt ∨ ((h.1 102 10).toInt = 0 ∧ (h.1 102 5).toInt = 0)) : INV (mixI h 97 102 0 0 68) := by
  have e97 : (mixI h 97 102 0 0 68).1 97 = mixR (h.1 97) (h.1 102) 0 0 68 := cI_self _ _ _
  have e98 : (mixI h 97 102 0 0 68).1 98 = h.1 98 := mixI_ne (by decide)
  have em : ∀ j, j < 68 → mixR (h.1 97) (h.1 102) 0 0 68 j = h.1 102 j := fun j hj => by
    unfold mixR
    rw [if_pos (by omega)]
    exact congrArg (h.1 102) (by omega)
  refine ⟨IB_cI hI.1 (fun j => ?_), EX_iff (h := h) (mixI_ne (by decide)) (mixI_ne (by decide)) (mixI_ne (by decide)) (mixI_ne (by decide)) hI.2 ?_ (by rw [e98]; exact hI.2.2.2.2.2.2.1) (by rw [e98]; exact hI.2.2.2.2.2.2.2.1) (by rw [e98]; exact hI.2.2.2.2.2.2.2.2)⟩
  · by_cases c : j < 68
    · rw [em j c, ← b97102 j c]
      exact hI.1 102 j
    · unfold mixR
      rw [if_neg (by omega)]
      exact hI.1 97 j
  · rw [e97]
    refine ⟨fun j hj => ?_, fun hj => ?_, fun hj => ?_⟩
    · rw [em _ (by omega)] at hj
      exact absurd hj (by rw [h9]; omega)
    · rw [em _ (by omega)] at hj
      rw [em _ (by omega)]
      rcases h0 with c | c
      · exact c
      · exact absurd hj (by rw [show 0 + 10 = 10 from rfl, c.1]; decide)
    · rw [em _ (by omega)] at hj
      rw [em _ (by omega)]
      rcases h0 with c | c
      · exact c
      · exact absurd hj (by rw [show 0 + 5 = 5 from rfl, c.2]; decide)

set_option maxHeartbeats 4000000 in
set_option maxRecDepth 100000 in
theorem brig_copy {h h1 : PH} {x0 : Int32} (hI : INV h1) (fr : FR [96, 97, 102] h h1) (h9 : (h1.1 102 9).toInt = 0) (h0 : 1 ≤ (h1.1 102 0).toInt ∨ ((h1.1 102 10).toInt = 0 ∧ (h1.1 102 5).toInt = 0)) : RUN d_X9_brigade 84 [(1, .inl x0), (0, .inr (.inr (.inl 96)))] [] h1 (fun r h' => INV h' ∧ FR [96, 97, 102] h h' ∧ True ∧ ∃ z : Int32, r = some (.inl z) ∧ True) := by
  refine R_iconst 0 rfl rfl ?_
  refine R_istore_n (k := 1) rfl [(1, .inl 0), (0, .inr (.inr (.inl 96)))] rfl rfl (by decide) ?_
  have lp : ∀ (n : Nat) (x : Int32), 0 ≤ x.toInt ∧ x.toInt ≤ 68 → (68 - x.toInt).toNat < n → RUN d_X9_brigade 86 [(1, .inl x), (0, .inr (.inr (.inl 96)))] [] (mixI h1 97 102 0 0 x.toNatClampNeg) (fun r h' => INV h' ∧ FR [96, 97, 102] h h' ∧ True ∧ ∃ z : Int32, r = some (.inl z) ∧ True) := by
    intro n
    induction n with
    | zero => intro x m1 hz; exact absurd hz (Nat.not_lt_zero _)
    | succ n ih =>
      intro x m1 hz
      have ex := pcl (x := x) m1.1
      refine R_iload_n (k := 1) rfl rfl rfl ?_
      refine R_bipush 68 rfl rfl ?_
      refine N_icmp_ge (a := x.toInt) (b := 68) 110 rfl rfl rfl (by decide) (fun c => ?_) (fun c => ?_)
      · have e68 : x.toNatClampNeg = 68 := by omega
        rw [e68]
        have hI2 := INV_brig hI h9 h0
        have fr2 : FR [97] h1 (mixI h1 97 102 0 0 68) := FR_mix (by decide)
        have fr3 := fr.trans fr2 (by decide)
        refine R_aload_n (k := 0) rfl rfl rfl ?_
        refine R_getf_r (j := 1) rfl ft_9_9 sh_96 rfl ?_
        refine R_bipush 10 rfl rfl ?_
        refine R_iald rfl sh_97 (by decide) ?_
        refine N_any (fun x13 => ?_)
        exact R_iret rfl rfl rfl ⟨hI2, fr3, trivial, _, rfl, trivial⟩
      · refine R_aload_n (k := 0) rfl rfl rfl ?_
        refine R_getf_r (j := 1) rfl ft_9_9 sh_96 rfl ?_
        refine R_iload_n (k := 1) rfl rfl rfl ?_
        refine R_aload_n (k := 0) rfl rfl rfl ?_
        refine R_getf_r (j := 14) rfl ft_9_31 sh_96 rfl ?_
        refine R_iload_n (k := 1) rfl rfl rfl ?_
        refine R_iald rfl sh_102 ⟨by omega, by omega⟩ ?_
        refine R_iast rfl sh_97 ⟨by omega, by omega⟩ ?_
        have e5 := mixI_s (h := h1) (k := 97) (q := 102) (o := 0) (p := 0) (i := x.toNatClampNeg)
        rw [Nat.zero_add, Nat.add_zero] at e5
        rw [mixI_ne (r := 102) (by decide), e5]
        refine N_iinc (a := x.toInt) (c := 1) (fun w => [(1, .inl w), (0, .inr (.inr (.inl 96)))]) rfl rfl (fun _ => rfl) (by decide) rfl (by decide) (by omega) (fun x6 q7 => ?_)
        refine R_goto 86 rfl rfl ?_
        have e6 : x.toNatClampNeg + 1 = x6.toNatClampNeg := by
          have := pcl (x := x6) (by omega)
          omega
        have hh := ih x6 (by omega) (by omega)
        rw [← e6] at hh
        exact hh
  have h0' := lp _ 0 (by decide) (Nat.lt_succ_self _)
  rw [show (0 : Int32).toNatClampNeg = 0 from rfl, mixI_0] at h0'
  exact h0'
