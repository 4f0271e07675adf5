/-! The plain heap as the machine's world. -/
def pv (ρ : Nat → Nat) (σ : Nat → Option Nat) : PV → Value
  | .inl x => .int x
  | .inr (.inl x) => .long x
  | .inr (.inr (.inl k)) => .ref (ρ k)
  | .inr (.inr (.inr k)) => va_rf (σ k)
theorem pv_cat (ρ : Nat → Nat) (σ : Nat → Option Nat) (v : PV) : (pv ρ σ v).category = pc2 v := by
  rcases v with x | x | k | k
  · rfl
  · rfl
  · rfl
  · show (va_rf (σ k)).category = 1
    cases σ k <;> rfl
def plv (ρ : Nat → Nat) (σ : Nat → Option Nat) (L : PL) : List (Nat × Value) := L.map (fun q => (q.1, pv ρ σ q.2))
theorem pget_mem {L : PL} {i : Nat} {v : PV} (h : pget L i = some v) : (i, v) ∈ L := by
  induction L with
  | nil => cases h
  | cons q L ih =>
    unfold pget at h
    split at h
    · rename_i hq
      cases h
      exact List.mem_cons.mpr (Or.inl (by rw [← hq]))
    · exact List.mem_cons_of_mem _ (ih h)
theorem pget_at {ρ : Nat → Nat} {σ : Nat → Option Nat} {L : PL} {i nL : Nat} {v : PV} {ls : Array Slot} (h : lv_has ls nL (plv ρ σ L)) (hg : pget L i = some v) : ls[i]? = some (.val (pv ρ σ v)) :=
  h.2.2 (i, pv ρ σ v) (List.mem_map.mpr ⟨(i, v), pget_mem hg, rfl⟩)
theorem plv_set1 (ρ : Nat → Nat) (σ : Nat → Option Nat) (L : PL) (i : Nat) (v : PV) : (i, pv ρ σ v) :: (plv ρ σ L).filter (fun q => !(q.1 == i) && !(q.1 + 1 == i && q.2.category == 2)) = plv ρ σ (pset1 L i v) := by
  simp only [plv, pset1, List.map_cons, List.filter_map]
  congr 2
  apply List.filter_congr
  intro q _
  simp only [Function.comp, pv_cat]
theorem plv_set2 (ρ : Nat → Nat) (σ : Nat → Option Nat) (L : PL) (i : Nat) (v : PV) : (i, pv ρ σ v) :: (plv ρ σ L).filter (fun q => !(q.1 == i) && (!(q.1 == i + 1) && !(q.1 + 1 == i && q.2.category == 2))) = plv ρ σ (pset2 L i v) := by
  simp only [plv, pset2, List.map_cons, List.filter_map]
  congr 2
  apply List.filter_congr
  intro q _
  simp only [Function.comp, pv_cat]
theorem plv_args (ρ : Nat → Nat) (σ : Nat → Option Nat) (vs : List PV) : ∀ i : Nat, lv_args i (vs.map (pv ρ σ)) = plv ρ σ (pargs i vs) := by
  induction vs with
  | nil => intro i; rfl
  | cons v vs ih =>
    intro i
    show (i, pv ρ σ v) :: lv_args (if (pv ρ σ v).category = 2 then i + 2 else i + 1) (vs.map (pv ρ σ)) = (i, pv ρ σ v) :: plv ρ σ (pargs (if pc2 v = 2 then i + 2 else i + 1) vs)
    rw [pv_cat, ih]
theorem pcats (ρ : Nat → Nat) (σ : Nat → Option Nat) (st : List PV) : ((st.map (pv ρ σ)).map fun v => v.category).sum = (st.map pc2).sum := by
  rw [List.map_map]
  congr 1
  apply List.map_congr_left
  intro v _
  exact pv_cat ρ σ v
theorem plg_len (ρ : Nat → Nat) (σ : Nat → Option Nat) (vs : List PV) : (lg_sl (vs.map (pv ρ σ))).length = (vs.map pc2).sum := by
  induction vs with
  | nil => rfl
  | cons v vs ih =>
    have h : lg_sl ((v :: vs).map (pv ρ σ)) = (if (pv ρ σ v).category = 2 then [.val (pv ρ σ v), .second] else [.val (pv ρ σ v)]) ++ lg_sl (vs.map (pv ρ σ)) := rfl
    rw [h, List.length_append, ih, List.map_cons, List.sum_cons, pv_cat]
    rcases v with x | x | k | k <;> rfl
def pfv (ρ : Nat → Nat) (h : PH) (k : Nat) (j : Nat) : PF → Value
  | .inl r => .ref (ρ r)
  | .inr false => .int (h.1 k j)
  | .inr true => .long (h.2 k j)
def pce (ρ : Nat → Nat) (a : Nat → ClassId) (h : PH) (k : Nat) : PSh → va_E
  | .inl (3, n) => .inl (a 3, n, .inr (.inl (h.2 k)))
  | .inl (t, n) => .inl (a t, n, .inl (h.1 k))
  | .inr (.inl rs) => .inl (a 4, rs.length, .inr (.inr (.inr (.inr (fun j => some (ρ (rs.getD j 0)))))))
  | .inr (.inr (ci, fs)) => .inr (ci, fs.mapIdx (pfv ρ h k))
def toW (ρ : Nat → Nat) (a : Nat → ClassId) (h : PH) : va_W := SH.mapIdx (fun k sh => (ρ k, pce ρ a h k sh))
def tysP (a : Nat → ClassId) : List (ClassId × FieldType) := [(a 0, .int), (a 1, .byte), (a 2, .boolean), (a 3, .long), (a 4, .object RX1)]
theorem toW_at {ρ : Nat → Nat} {a : Nat → ClassId} {h : PH} {k : Nat} {sh : PSh} (hk : SH[k]? = some sh) : (toW ρ a h)[k]? = some (ρ k, pce ρ a h k sh) := by
  unfold toW
  rw [List.getElem?_mapIdx, hk]
  rfl
theorem pce_off {ρ : Nat → Nat} {a : Nat → ClassId} {h h' : PH} {k : Nat} (h1 : h'.1 k = h.1 k) (h2 : h'.2 k = h.2 k) (sh : PSh) : pce ρ a h' k sh = pce ρ a h k sh := by
  have hf : pfv ρ h' k = pfv ρ h k := by
    funext j f
    rcases f with r | b
    · rfl
    · cases b
      · show Value.int (h'.1 k j) = Value.int (h.1 k j)
        rw [h1]
      · show Value.long (h'.2 k j) = Value.long (h.2 k j)
        rw [h2]
  rcases sh with ⟨t, n⟩ | rs | ⟨ci, fs⟩
  · unfold pce
    split <;> simp_all
  · rfl
  · show Sum.inr (ci, fs.mapIdx (pfv ρ h' k)) = Sum.inr (ci, fs.mapIdx (pfv ρ h k))
    rw [hf]
theorem toW_set {ρ : Nat → Nat} {a : Nat → ClassId} {h h' : PH} {k : Nat} {sh : PSh} (hk : SH[k]? = some sh) {e : va_E} (he : pce ρ a h' k sh = e) (h1 : ∀ q, q ≠ k → h'.1 q = h.1 q) (h2 : ∀ q, q ≠ k → h'.2 q = h.2 q) : (toW ρ a h).set k (ρ k, e) = toW ρ a h' := by
  apply List.ext_getElem?
  intro i
  have hkl : k < SH.length := (List.getElem?_eq_some_iff.mp hk).1
  by_cases hi : k = i
  · subst hi
    rw [List.getElem?_set_self (by unfold toW; rw [List.length_mapIdx]; exact hkl), toW_at hk, he]
  · rw [List.getElem?_set_ne hi]
    unfold toW
    rw [List.getElem?_mapIdx, List.getElem?_mapIdx]
    cases hs : SH[i]? with
    | none => rfl
    | some q => simp only [Option.map_some]; rw [pce_off (h1 i (Ne.symm hi)) (h2 i (Ne.symm hi))]
theorem rI_self (f : Nat → Nat → Int32) (k : Nat) (g : Nat → Int32) : rI f k g k = g := if_pos rfl
theorem rI_ne (f : Nat → Nat → Int32) {k q : Nat} (g : Nat → Int32) (h : q ≠ k) : rI f k g q = f q := if_neg h
theorem rL_self (f : Nat → Nat → Int64) (k : Nat) (g : Nat → Int64) : rL f k g k = g := if_pos rfl
theorem rL_ne (f : Nat → Nat → Int64) {k q : Nat} (g : Nat → Int64) (h : q ≠ k) : rL f k g q = f q := if_neg h
theorem toW_rI {ρ : Nat → Nat} {a : Nat → ClassId} {h : PH} {k : Nat} {sh : PSh} (hk : SH[k]? = some sh) (g : Nat → Int32) {e : va_E} (he : pce ρ a (rI h.1 k g, h.2) k sh = e) : (toW ρ a h).set k (ρ k, e) = toW ρ a (rI h.1 k g, h.2) :=
  toW_set hk he (fun _ hq => rI_ne _ _ hq) (fun _ _ => rfl)
theorem toW_rL {ρ : Nat → Nat} {a : Nat → ClassId} {h : PH} {k : Nat} {sh : PSh} (hk : SH[k]? = some sh) (g : Nat → Int64) {e : va_E} (he : pce ρ a (h.1, rL h.2 k g) k sh = e) : (toW ρ a h).set k (ρ k, e) = toW ρ a (h.1, rL h.2 k g) :=
  toW_set hk he (fun _ _ => rfl) (fun _ hq => rL_ne _ _ hq)
/-- a field written -/
theorem pfs_I {ρ : Nat → Nat} {h : PH} {k j : Nat} {fs : List PF} {x : Int32} (hj : fs[j]? = some (.inr false)) : (fs.mapIdx (pfv ρ h k)).set j (.int x) = fs.mapIdx (pfv ρ (rI h.1 k (upd (h.1 k) j x), h.2) k) := by
  apply List.ext_getElem?
  intro i
  have hl : j < fs.length := (List.getElem?_eq_some_iff.mp hj).1
  by_cases hi : j = i
  · subst hi
    rw [List.getElem?_set_self (by rw [List.length_mapIdx]; exact hl), List.getElem?_mapIdx, hj]
    show some (Value.int x) = some (Value.int (rI h.1 k (upd (h.1 k) j x) k j))
    rw [rI_self]
    show some (Value.int x) = some (Value.int (if j = j then x else h.1 k j))
    rw [if_pos rfl]
  · rw [List.getElem?_set_ne hi, List.getElem?_mapIdx, List.getElem?_mapIdx]
    cases hs : fs[i]? with
    | none => rfl
    | some f =>
      simp only [Option.map_some]
      rcases f with r | b
      · rfl
      · cases b
        · show some (Value.int (h.1 k i)) = some (Value.int (rI h.1 k (upd (h.1 k) j x) k i))
          rw [rI_self]
          show some (Value.int (h.1 k i)) = some (Value.int (if i = j then x else h.1 k i))
          rw [if_neg (Ne.symm hi)]
        · rfl
theorem pfs_L {ρ : Nat → Nat} {h : PH} {k j : Nat} {fs : List PF} {x : Int64} (hj : fs[j]? = some (.inr true)) : (fs.mapIdx (pfv ρ h k)).set j (.long x) = fs.mapIdx (pfv ρ (h.1, rL h.2 k (vp_updL (h.2 k) j x)) k) := by
  apply List.ext_getElem?
  intro i
  have hl : j < fs.length := (List.getElem?_eq_some_iff.mp hj).1
  by_cases hi : j = i
  · subst hi
    rw [List.getElem?_set_self (by rw [List.length_mapIdx]; exact hl), List.getElem?_mapIdx, hj]
    show some (Value.long x) = some (Value.long (rL h.2 k (vp_updL (h.2 k) j x) k j))
    rw [rL_self]
    show some (Value.long x) = some (Value.long (if j = j then x else h.2 k j))
    rw [if_pos rfl]
  · rw [List.getElem?_set_ne hi, List.getElem?_mapIdx, List.getElem?_mapIdx]
    cases hs : fs[i]? with
    | none => rfl
    | some f =>
      simp only [Option.map_some]
      rcases f with r | b
      · rfl
      · cases b
        · rfl
        · show some (Value.long (h.2 k i)) = some (Value.long (rL h.2 k (vp_updL (h.2 k) j x) k i))
          rw [rL_self]
          show some (Value.long (h.2 k i)) = some (Value.long (if i = j then x else h.2 k i))
          rw [if_neg (Ne.symm hi)]
theorem pin_vp {i : Int32} {n : Nat} (h : pin i n = true) : vp_in i n := vp_in_iff.mpr (of_decide_eq_true h)
