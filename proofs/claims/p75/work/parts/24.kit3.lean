/-! further rows: a switch, FACTORIAL, copies, cells that are told of -/
theorem tnc {x : Int32} {n : Nat} (h : x.toInt = n) : x.toNatClampNeg = n := by
  have := pcl (x := x) (by omega)
  omega
def cI (h : PH) (k : Nat) (f : Nat → Int32) : PH := (rI h.1 k f, h.2)
def cL (h : PH) (k : Nat) (f : Nat → Int64) : PH := (h.1, rL h.2 k f)
theorem cI_ne (h : PH) {k q : Nat} (f : Nat → Int32) (hq : q ≠ k) : (cI h k f).1 q = h.1 q := rI_ne _ _ hq
theorem cI_self (h : PH) (k : Nat) (f : Nat → Int32) : (cI h k f).1 k = f := rI_self _ _ _
theorem cL_fst (h : PH) (k : Nat) (f : Nat → Int64) : (cL h k f).1 = h.1 := rfl
theorem FR_cI {W : List Nat} {h h' : PH} {k : Nat} (f : Nat → Int32) (a : FR W h h') (hk : W.contains k = true) : FR W h (cI h' k f) := fun q hq => by
  have hn : q ≠ k := fun z => hq (by subst z; simpa using hk)
  exact ⟨(cI_ne h' f hn).trans (a q hq).1, (a q hq).2⟩
theorem FR_cL {W : List Nat} {h h' : PH} {k : Nat} (f : Nat → Int64) (a : FR W h h') (hk : W.contains k = true) : FR W h (cL h' k f) := fun q hq => by
  have hn : q ≠ k := fun z => hq (by subst z; simpa using hk)
  exact ⟨(a q hq).1, (rL_ne _ _ hn).trans (a q hq).2⟩
theorem IB_cI {h : PH} {k : Nat} {f : Nat → Int32} (hI : IB h) (hf : ∀ j, (bnd k j).1 ≤ (f j).toInt ∧ (f j).toInt ≤ (bnd k j).2) : IB (cI h k f) := by
  intro q i
  by_cases hq : q = k
  · subst hq
    rw [cI_self]
    exact hf i
  · rw [cI_ne h f hq]
    exact hI q i
theorem bnd_eq {k q : Nat} (h : BT[k]? = BT[q]?) (j : Nat) : bnd k j = bnd q j := by
  unfold bnd
  rw [h]
theorem INV_cpyA {h : PH} {k q n : Nat} (hI : INV h) (hp : PROT.contains k = false) (hb : BT[k]? = BT[q]?) : INV (cI h k (va_cpy (h.1 q) (h.1 k) 0 0 n)) := by
  refine ⟨IB_cI hI.1 (fun j => ?_), EX_of (fun r hr => cI_ne h _ (fun z => ?_)) hI.2⟩
  · unfold va_cpy
    split
    · rename_i c
      rw [bnd_eq hb, show 0 + (j - 0) = j by omega]
      exact hI.1 q j
    · exact hI.1 k j
  · subst z
    have : PROT.contains r = true := by simpa using hr
    rw [hp] at this
    cases this
theorem va0 {f g : Nat → Int32} {n j : Nat} (h : j < n) : va_cpy f g 0 0 n j = f j := by
  unfold va_cpy
  rw [if_pos ⟨Nat.zero_le _, by omega⟩]
  congr 1
  omega
theorem INV_cpyE {h : PH} {k : Nat} {f : Nat → Int32} (hI : INV h) (hk : k = 17 ∨ k = 29 ∨ k = 41 ∨ k = 53) (hf : ∀ j, (bnd k j).1 ≤ (f j).toInt ∧ (f j).toInt ≤ (bnd k j).2) (he : EL f) : INV (cI h k f) := by
  refine ⟨IB_cI hI.1 hf, ?_⟩
  obtain ⟨a1, a2, a3, a4, a5, a6⟩ := hI.2
  have e : ∀ q, q ≠ k → (cI h k f).1 q = h.1 q := fun q hq => cI_ne h f hq
  rcases hk with rfl | rfl | rfl | rfl
  · exact ⟨by rw [cI_self]; exact he, by rw [e 29 (by decide)]; exact a2, by rw [e 41 (by decide)]; exact a3, by rw [e 53 (by decide)]; exact a4, by rw [e 97 (by decide)]; exact a5, by rw [e 98 (by decide)]; exact a6⟩
  · exact ⟨by rw [e 17 (by decide)]; exact a1, by rw [cI_self]; exact he, by rw [e 41 (by decide)]; exact a3, by rw [e 53 (by decide)]; exact a4, by rw [e 97 (by decide)]; exact a5, by rw [e 98 (by decide)]; exact a6⟩
  · exact ⟨by rw [e 17 (by decide)]; exact a1, by rw [e 29 (by decide)]; exact a2, by rw [cI_self]; exact he, by rw [e 53 (by decide)]; exact a4, by rw [e 97 (by decide)]; exact a5, by rw [e 98 (by decide)]; exact a6⟩
  · exact ⟨by rw [e 17 (by decide)]; exact a1, by rw [e 29 (by decide)]; exact a2, by rw [e 41 (by decide)]; exact a3, by rw [cI_self]; exact he, by rw [e 97 (by decide)]; exact a5, by rw [e 98 (by decide)]; exact a6⟩
theorem EL_crew {h : PH} (hI : INV h) {q : Nat} (hq : q = 17 ∨ q = 29 ∨ q = 41 ∨ q = 53) : EL (h.1 q) := by
  obtain ⟨a1, a2, a3, a4, -⟩ := hI.2
  rcases hq with rfl | rfl | rfl | rfl
  · exact a1
  · exact a2
  · exact a3
  · exact a4
theorem EL_cpy {f g : Nat → Int32} {n : Nat} (hn : 11 ≤ n) (he : EL f) : EL (va_cpy f g 0 0 n) := by
  unfold EL
  rw [va0 (show 10 < n by omega), va0 (show 0 < n by omega)]
  exact he
theorem INV_w9 {h : PH} {x : Int32} (hI : INV h) (hb : 0 ≤ x.toInt ∧ x.toInt ≤ (h.1 97 9).toInt) : INV (wI h 97 9 x) := by
  have h9 : (0 : Int) ≤ (h.1 97 9).toInt ∧ (h.1 97 9).toInt ≤ 30 := hI.1 97 9
  refine ⟨IB_wI hI.1 (show (0 : Int) ≤ x.toInt from hb.1) (show x.toInt ≤ (30 : Int) by omega), ?_⟩
  obtain ⟨a1, a2, a3, a4, a5, a6⟩ := hI.2
  have e97 : ∀ q, q ≠ 97 → (wI h 97 9 x).1 q = h.1 q := fun q hq => wI_ne h 9 x hq
  refine ⟨by rw [e97 17 (by decide)]; exact a1, by rw [e97 29 (by decide)]; exact a2, by rw [e97 41 (by decide)]; exact a3, by rw [e97 53 (by decide)]; exact a4, ?_, by rw [e97 98 (by decide)]; exact a6⟩
  rw [wI_self]
  unfold EA
  rw [upd_ne (show 0 ≠ 9 by decide), upd_ne (show 0 + 10 ≠ 9 by decide), upd_ne (show 0 + 5 ≠ 9 by decide)]
  refine ⟨fun i hi => ?_, a5.2⟩
  rw [upd_ne (show 0 + 38 + i ≠ 9 by omega)]
  have : upd (h.1 97) 9 x (0 + 9) = x := if_pos rfl
  rw [this] at hi
  exact a5.1 i (by show (i : Int) < (h.1 97 9).toInt; omega)
/-- an act behind the last one -/
theorem INV_w38 {h : PH} {x : Int32} {j : Nat} (hI : INV h) (hj : (j : Int) = 38 + (h.1 97 9).toInt) : INV (wI h 97 j x) := by
  have h9 : (0 : Int) ≤ (h.1 97 9).toInt ∧ (h.1 97 9).toInt ≤ 30 := hI.1 97 9
  have hbn : bnd 97 j = (-2147483648, 2147483647) := by
    have hj' : 38 ≤ j ∧ j ≤ 68 := by omega
    obtain ⟨i, rfl⟩ : ∃ i, j = 38 + i := ⟨j - 38, by omega⟩
    have : ∀ i, i ≤ 30 → bnd 97 (38 + i) = (-2147483648, 2147483647) := by decide
    exact this i (by omega)
  refine ⟨IB_wI hI.1 (by rw [hbn]; exact (i_rng x).1) (by rw [hbn]; exact (i_rng x).2), ?_⟩
  obtain ⟨a1, a2, a3, a4, a5, a6⟩ := hI.2
  have e97 : ∀ q, q ≠ 97 → (wI h 97 j x).1 q = h.1 q := fun q hq => wI_ne h j x hq
  refine ⟨by rw [e97 17 (by decide)]; exact a1, by rw [e97 29 (by decide)]; exact a2, by rw [e97 41 (by decide)]; exact a3, by rw [e97 53 (by decide)]; exact a4, ?_, by rw [e97 98 (by decide)]; exact a6⟩
  rw [wI_self]
  unfold EA
  rw [upd_ne (show 0 ≠ j by omega), upd_ne (show 0 + 9 ≠ j by omega), upd_ne (show 0 + 10 ≠ j by omega), upd_ne (show 0 + 5 ≠ j by omega)]
  refine ⟨fun i hi => ?_, a5.2⟩
  have hi' : (i : Int) < (h.1 97 9).toInt := hi
  rw [upd_ne (show 0 + 38 + i ≠ j by omega)]
  exact a5.1 i hi
theorem INV_w9s {h : PH} {x : Int32} {j : Nat} (hI : INV h) (hj : (j : Int) = 38 + (h.1 97 9).toInt) (ha : actOk (h.1 97 j).toInt) (hx : x.toInt = (h.1 97 9).toInt + 1) (hx2 : x.toInt ≤ 30) : INV (wI h 97 9 x) := by
  have h9 : (0 : Int) ≤ (h.1 97 9).toInt ∧ (h.1 97 9).toInt ≤ 30 := hI.1 97 9
  refine ⟨IB_wI hI.1 (show (0 : Int) ≤ x.toInt by omega) (show x.toInt ≤ (30 : Int) by omega), ?_⟩
  obtain ⟨a1, a2, a3, a4, a5, a6⟩ := hI.2
  have e97 : ∀ q, q ≠ 97 → (wI h 97 9 x).1 q = h.1 q := fun q hq => wI_ne h 9 x hq
  refine ⟨by rw [e97 17 (by decide)]; exact a1, by rw [e97 29 (by decide)]; exact a2, by rw [e97 41 (by decide)]; exact a3, by rw [e97 53 (by decide)]; exact a4, ?_, by rw [e97 98 (by decide)]; exact a6⟩
  rw [wI_self]
  unfold EA
  rw [upd_ne (show 0 ≠ 9 by decide), upd_ne (show 0 + 10 ≠ 9 by decide), upd_ne (show 0 + 5 ≠ 9 by decide)]
  refine ⟨fun i hi => ?_, a5.2⟩
  rw [upd_ne (show 0 + 38 + i ≠ 9 by omega)]
  have : upd (h.1 97) 9 x (0 + 9) = x := if_pos rfl
  rw [this] at hi
  by_cases c : (i : Int) < (h.1 97 9).toInt
  · exact a5.1 i c
  · have : 0 + 38 + i = j := by omega
    rw [this]
    exact ha
def bz (k : Nat) : Bool := match BT[k]? with
  | some (lo, hi, os) => decide (lo ≤ 0) && decide (0 ≤ hi) && os.all (fun e => decide (e.2.1 ≤ 0) && decide (0 ≤ e.2.2))
  | none => true
theorem bz_ok {k : Nat} (h : bz k = true) (j : Nat) : (bnd k j).1 ≤ 0 ∧ 0 ≤ (bnd k j).2 := by
  unfold bz at h
  unfold bnd
  split
  · rename_i lo hi e
    rw [e] at h
    simp only [Bool.and_eq_true, decide_eq_true_eq] at h
    exact h.1
  · rename_i lo hi o os e
    rw [e] at h
    simp only [Bool.and_eq_true, decide_eq_true_eq] at h
    split
    · rename_i e' he
      have hm := List.mem_of_find?_eq_some he
      have := List.all_eq_true.mp h.2 e' hm
      simp only [Bool.and_eq_true, decide_eq_true_eq] at this
      exact this
    · exact h.1
  · exact ⟨by decide, by decide⟩
section
variable {d : PMd} {pc : Nat} {L : PL} {st : List PV} {h h0 : PH} {Q : Option PV → PH → Prop} {W : List Nat}
theorem K_ias9 {x : Int32} (hi : d.2.2.2.2.2.2.2[pc]? = some (some (.iastore, 1))) (hI : INV h) (hb : 0 ≤ x.toInt ∧ x.toInt ≤ (h.1 97 9).toInt) (fr : FR W h0 h) (hw : W.contains 97 = true) (kk : ∀ h' : PH, h' = wI h 97 (9 : Int32).toNatClampNeg x → INV h' → FR W h0 h' → RUN d (pc + 1) L st h' Q) : RUN d pc L (.inl x :: .inl (9 : Int32) :: .inr (.inr (.inl 97)) :: st) h Q :=
  R_iast hi sh_97 (by decide) (kk _ rfl (INV_w9 hI hb) (FR_wI _ _ fr hw))
theorem K_iastz {k n : Nat} {i : Int32} {a : Int} (hi : d.2.2.2.2.2.2.2[pc]? = some (some (.iastore, 1))) (hs : SH[k]? = some (.inl (0, n))) (hx : i.toInt = a) (hin : 0 ≤ a ∧ a < n) (hI : INV h) (hp : PROT.contains k = false) (hz : bz k = true) (fr : FR W h0 h) (hw : W.contains k = true) (kk : ∀ h' : PH, h' = wI h k i.toNatClampNeg (0 : Int32) → INV h' → FR W h0 h' → RUN d (pc + 1) L st h' Q) : RUN d pc L (.inl (0 : Int32) :: .inl i :: .inr (.inr (.inl k)) :: st) h Q :=
  R_iast hi hs (by rw [hx]; exact hin) (kk _ rfl (INV_wI hI hp (bz_ok hz _).1 (bz_ok hz _).2) (FR_wI _ _ fr hw))
theorem R_tsw {dflt lo hi' : Int} {offs : Array Int} {n : Nat} {x : Int32} {a : Int} (off : Int) (tgt : Nat) (hi : d.2.2.2.2.2.2.2[pc]? = some (some (.tableswitch dflt lo hi' offs, n))) (hn : ¬ n = 1) (hx : x.toInt = a) (hc : lo ≤ a ∧ a ≤ hi') (ho : offs[(a - lo).toNat]? = some off) (ht : ptg pc off = some tgt) (k : RUN d tgt L st h Q) : RUN d pc L (.inl x :: st) h Q := RUN_nx (x := (tgt, L, st, h)) hi (if_neg hn) rfl (by
  have e : sGo (.tableswitch dflt lo hi' offs) n pc L (.inl x :: st) h = some (tgt, L, st, h) := by
    show (if x.toInt < lo ∨ hi' < x.toInt then match ptg pc dflt with | some t => some (t, L, st, h) | none => none else match offs[(x.toInt - lo).toNat]? with | some off => (match ptg pc off with | some t => some (t, L, st, h) | none => none) | none => none) = _
    rw [if_neg (by omega), hx, ho]
    show (match ptg pc off with | some t => some (t, L, st, h) | none => none) = _
    rw [ht]
  unfold pnext
  rw [e]
  rfl) k
theorem R_tswd {dflt lo hi' : Int} {offs : Array Int} {n : Nat} {x : Int32} {a : Int} (tgt : Nat) (hi : d.2.2.2.2.2.2.2[pc]? = some (some (.tableswitch dflt lo hi' offs, n))) (hn : ¬ n = 1) (hx : x.toInt = a) (hc : a < lo ∨ hi' < a) (ht : ptg pc dflt = some tgt) (k : RUN d tgt L st h Q) : RUN d pc L (.inl x :: st) h Q := RUN_nx (x := (tgt, L, st, h)) hi (if_neg hn) rfl (by
  have e : sGo (.tableswitch dflt lo hi' offs) n pc L (.inl x :: st) h = some (tgt, L, st, h) := by
    show (if x.toInt < lo ∨ hi' < x.toInt then match ptg pc dflt with | some t => some (t, L, st, h) | none => none else match offs[(x.toInt - lo).toNat]? with | some off => (match ptg pc off with | some t => some (t, L, st, h) | none => none) | none => none) = _
    rw [if_pos (by omega), ht]
  unfold pnext
  rw [e]
  rfl) k
theorem R_gst (hi : d.2.2.2.2.2.2.2[pc]? = some (some (.getstatic 335, 3))) (hd : d.1 = 8) (kk : RUN d (pc + 3) L (.inr (.inr (.inr 0)) :: st) h Q) : RUN d pc L st h Q := RUN_nx (x := (pc + 3, L, .inr (.inr (.inr 0)) :: st, h)) hi rfl rfl (by
  have e : sRd d (.getstatic 335) 3 pc L st h = some (pc + 3, L, .inr (.inr (.inr 0)) :: st, h) := by
    have g : gRd d h (.getstatic 335) st = some (.inr (.inr (.inr 0)), st, 3) := by
      unfold gRd
      exact if_pos ⟨hd, rfl⟩
    unfold sRd
    rw [g]
    dsimp only
    rw [if_pos rfl]
  unfold pnext
  rw [e]
  rfl) kk
theorem gC_I {k q m0 m1 : Nat} {n : Int32} {st : List PV} (hq : SH[q]? = some (.inl (0, m0))) (hk : SH[k]? = some (.inl (0, m1))) (h0 : 0 ≤ n.toInt) (h1 : n.toInt ≤ m0) (h2 : n.toInt ≤ m1) : gNat 6 h (.inl n :: .inl (0 : Int32) :: .inr (.inr (.inl k)) :: .inl (0 : Int32) :: .inr (.inr (.inl q)) :: st) = some (st, cI h k (va_cpy (h.1 q) (h.1 k) 0 0 n.toNatClampNeg)) := by
  unfold gNat
  rw [if_pos rfl]
  unfold gCopy
  dsimp only
  rw [if_pos ⟨by decide, by decide, h0⟩, hq, hk]
  exact if_pos ⟨by rw [show (0 : Int32).toInt = 0 from rfl]; omega, by rw [show (0 : Int32).toInt = 0 from rfl]; omega⟩
theorem gC_L {k q m0 m1 : Nat} {n sp dp : Int32} {st : List PV} (hq : SH[q]? = some (.inl (3, m0))) (hk : SH[k]? = some (.inl (3, m1))) (hs : 0 ≤ sp.toInt) (hd : 0 ≤ dp.toInt) (h0 : 0 ≤ n.toInt) (h1 : sp.toInt + n.toInt ≤ m0) (h2 : dp.toInt + n.toInt ≤ m1) : gNat 6 h (.inl n :: .inl dp :: .inr (.inr (.inl k)) :: .inl sp :: .inr (.inr (.inl q)) :: st) = some (st, cL h k (va_cpy (h.2 q) (h.2 k) sp.toNatClampNeg dp.toNatClampNeg n.toNatClampNeg)) := by
  unfold gNat
  rw [if_pos rfl]
  unfold gCopy
  dsimp only
  rw [if_pos ⟨hs, hd, h0⟩, hq, hk]
  exact if_pos ⟨h1, h2⟩
theorem K_cpyA {idx a k q m : Nat} {n : Int32} (hi : d.2.2.2.2.2.2.2[pc]? = some (some (.invokestatic idx, 3))) (hm : mtab d.1 idx = some (3, 6, a)) (hq : SH[q]? = some (.inl (0, m))) (hk : SH[k]? = some (.inl (0, m))) (hn : 0 ≤ n.toInt ∧ n.toInt ≤ m) (hr : (pBn 6).1 ≤ d.2.2.2.2.2.1 ∧ (pBn 6).2.1 ≤ d.2.2.2.2.2.2.1 ∧ (st.map pc2).sum ≤ 8) (hI : INV h) (hp : PROT.contains k = false) (hb : BT[k]? = BT[q]?) (fr : FR W h0 h) (hw : W.contains k = true) (kk : ∀ h' : PH, h' = cI h k (va_cpy (h.1 q) (h.1 k) 0 0 n.toNatClampNeg) → INV h' → FR W h0 h' → RUN d (pc + 3) L st h' Q) : RUN d pc L (.inl n :: .inl (0 : Int32) :: .inr (.inr (.inl k)) :: .inl (0 : Int32) :: .inr (.inr (.inl q)) :: st) h Q :=
  R_nat hi hm (gC_I hq hk hn.1 hn.2 hn.2) hr (kk _ rfl (INV_cpyA hI hp hb) (FR_cI _ fr hw))
theorem K_cpyC {idx a k q : Nat} (hi : d.2.2.2.2.2.2.2[pc]? = some (some (.invokestatic idx, 3))) (hm : mtab d.1 idx = some (3, 6, a)) (hq : SH[q]? = some (.inl (0, 11))) (hk : SH[k]? = some (.inl (0, 11))) (hr : (pBn 6).1 ≤ d.2.2.2.2.2.1 ∧ (pBn 6).2.1 ≤ d.2.2.2.2.2.2.1 ∧ (st.map pc2).sum ≤ 8) (hI : INV h) (hkk : k = 17 ∨ k = 29 ∨ k = 41 ∨ k = 53) (hqq : q = 17 ∨ q = 29 ∨ q = 41 ∨ q = 53) (hb : BT[k]? = BT[q]?) (fr : FR W h0 h) (hw : W.contains k = true) (kk : ∀ h' : PH, h' = cI h k (va_cpy (h.1 q) (h.1 k) 0 0 (11 : Int32).toNatClampNeg) → INV h' → FR W h0 h' → RUN d (pc + 3) L st h' Q) : RUN d pc L (.inl (11 : Int32) :: .inl (0 : Int32) :: .inr (.inr (.inl k)) :: .inl (0 : Int32) :: .inr (.inr (.inl q)) :: st) h Q :=
  R_nat hi hm (gC_I hq hk (by decide) (by decide) (by decide)) hr (kk _ rfl (INV_cpyE hI hkk (fun j => by
    unfold va_cpy
    split
    · rw [bnd_eq hb, show 0 + (j - 0) = j by omega]
      exact hI.1 q j
    · exact hI.1 k j) (EL_cpy (by decide) (EL_crew hI hqq))) (FR_cI _ fr hw))
theorem bnd17_5 : ∀ j, j ≠ 0 → bnd 17 j = bnd 5 j := by
  intro j hj
  by_cases c : j < 11
  · have : ∀ j, j < 11 → j ≠ 0 → bnd 17 j = bnd 5 j := by decide
    exact this j c hj
  · have h1 : ∀ (os : List (Nat × Int × Int)), (∀ e ∈ os, e.1 < 11) → os.find? (fun e => e.1 == j) = none := by
      intro os ho
      refine List.find?_eq_none.mpr (fun e he => ?_)
      have := ho e he
      simp only [beq_iff_eq]
      omega
    have a : bnd 17 j = (-2147483648, 2147483647) := by
      show (match ([(0, 0, 60), (5, 0, 6), (6, 0, 5), (9, 0, 30)] : List (Nat × Int × Int)).find? (fun e => e.1 == j) with | some e => e.2 | none => (-2147483648, 2147483647)) = _
      rw [h1 _ (by decide)]
    have b : bnd 5 j = (-2147483648, 2147483647) := by
      show (match ([(5, 0, 6), (6, 0, 5), (9, 0, 30)] : List (Nat × Int × Int)).find? (fun e => e.1 == j) with | some e => e.2 | none => (-2147483648, 2147483647)) = _
      rw [h1 _ (by decide)]
    rw [a, b]
theorem K_cpyD {idx a : Nat} (hi : d.2.2.2.2.2.2.2[pc]? = some (some (.invokestatic idx, 3))) (hm : mtab d.1 idx = some (3, 6, a)) (hr : (pBn 6).1 ≤ d.2.2.2.2.2.1 ∧ (pBn 6).2.1 ≤ d.2.2.2.2.2.2.1 ∧ (st.map pc2).sum ≤ 8) (hI : INV h) (hs : 0 ≤ (h.1 5 0).toInt ∧ (h.1 5 0).toInt ≤ 60) (he : 0 < (h.1 5 10).toInt → 1 ≤ (h.1 5 0).toInt) (fr : FR W h0 h) (hw : W.contains 17 = true) (kk : ∀ h' : PH, h' = cI h 17 (va_cpy (h.1 5) (h.1 17) 0 0 (11 : Int32).toNatClampNeg) → INV h' → FR W h0 h' → RUN d (pc + 3) L st h' Q) : RUN d pc L (.inl (11 : Int32) :: .inl (0 : Int32) :: .inr (.inr (.inl 17)) :: .inl (0 : Int32) :: .inr (.inr (.inl 5)) :: st) h Q :=
  R_nat hi hm (gC_I sh_5 sh_17 (by decide) (by decide) (by decide)) hr (kk _ rfl (INV_cpyE hI (Or.inl rfl) (fun j => by
    unfold va_cpy
    split
    · rw [show 0 + (j - 0) = j by omega]
      by_cases c : j = 0
      · subst c
        exact hs
      · rw [bnd17_5 j c]
        exact hI.1 5 j
    · exact hI.1 17 j) (EL_cpy (by decide) he)) (FR_cI _ fr hw))
theorem K_cpyL {idx a k q m0 m1 : Nat} {n sp dp : Int32} (hi : d.2.2.2.2.2.2.2[pc]? = some (some (.invokestatic idx, 3))) (hm : mtab d.1 idx = some (3, 6, a)) (hq : SH[q]? = some (.inl (3, m0))) (hk : SH[k]? = some (.inl (3, m1))) (hn : 0 ≤ sp.toInt ∧ 0 ≤ dp.toInt ∧ 0 ≤ n.toInt ∧ sp.toInt + n.toInt ≤ m0 ∧ dp.toInt + n.toInt ≤ m1) (hr : (pBn 6).1 ≤ d.2.2.2.2.2.1 ∧ (pBn 6).2.1 ≤ d.2.2.2.2.2.2.1 ∧ (st.map pc2).sum ≤ 8) (hI : INV h) (fr : FR W h0 h) (hw : W.contains k = true) (kk : ∀ h' : PH, h' = cL h k (va_cpy (h.2 q) (h.2 k) sp.toNatClampNeg dp.toNatClampNeg n.toNatClampNeg) → INV h' → FR W h0 h' → RUN d (pc + 3) L st h' Q) : RUN d pc L (.inl n :: .inl dp :: .inr (.inr (.inl k)) :: .inl sp :: .inr (.inr (.inl q)) :: st) h Q :=
  R_nat hi hm (gC_L hq hk hn.1 hn.2.1 hn.2.2.1 hn.2.2.2.1 hn.2.2.2.2) hr (kk _ rfl hI (FR_cL _ fr hw))
theorem fact_bd {i : Int32} (h : 0 ≤ i.toInt ∧ i.toInt ≤ 6) : 1 ≤ (pFact i.toNatClampNeg).toInt ∧ (pFact i.toNatClampNeg).toInt ≤ 720 := by
  have e := pcl (x := i) h.1
  have : ∀ j, j ≤ 6 → 1 ≤ (pFact j).toInt ∧ (pFact j).toInt ≤ 720 := by decide
  exact this _ (by omega)
end
