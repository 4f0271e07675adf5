/-! Each step of the plain machine is the machine's own. -/
def AMB (σ : Nat → Option Nat) (A : Nat → Prop) (U : State) (H : Heap) : Prop :=
  (∀ q ∈ NST, va_Nw (.methodLinkNest (cn q.1) q.2.1 q.2.2 RX8) U) ∧
  (∀ o idx i : Nat, ktab o idx = some (.inr (.inr (.inr (i + 1)))) → ∃ (tx : String) (q : Nat), σ (i + 1) = some q ∧ vk_R (cn o) idx tx q U) ∧
  va_Z RJ0 "COMPACT_STRINGS" "Z" (.int 1) A U H ∧
  (∀ i, i < pStrs.length → ∃ q v : Nat, σ (i + 1) = some q ∧ σ (i + 15) = some v ∧ va_O RJ0 q A U H ∧ va_OF RJ0 "coder" "B" (.int 0) q A U H ∧ va_OF RJ0 "value" "[B" (.ref v) q A U H ∧ va_T .byte v (pStrs.getD i []).length (fun j => .int ((pStrs.getD i []).getD j 0)) A U H) ∧
  (∃ q : Nat, σ 0 = some q ∧ va_Z RX8 "FACTORIAL" "[I" (.ref q) A U H ∧ va_T .int q 7 (fun j => .int (pFact j)) A U H) ∧
  va_Z RJ3 "SIOOBE_FORMATTER" "Ljava/util/function/BiFunction;" (va_rf (σ 40)) A U H
theorem AMB.warm {σ : Nat → Option Nat} {A : Nat → Prop} {s U : State} {H : Heap} (hW : s.WarmedH U.vm) (h : AMB σ A s H) : AMB σ A U H := by
  obtain ⟨h1, h2, h3, h4, ⟨q5, e5, h5, h6⟩, h7⟩ := h
  refine ⟨fun q hq => (h1 q hq).warmM hW, fun o idx i hk => ?_, h3.moved hW.alike, fun i hi => ?_, ⟨q5, e5, h5.moved hW.alike, h6.moved hW.alike⟩, h7.moved hW.alike⟩
  · obtain ⟨tx, q, e, h⟩ := h2 o idx i hk
    exact ⟨tx, q, e, h.warm hW⟩
  · obtain ⟨q, v, e1, e2, q1, q2, q3, q4⟩ := h4 i hi
    exact ⟨q, v, e1, e2, q1.moved hW.alike, q2.moved hW.alike, q3.moved hW.alike, q4.moved hW.alike⟩
theorem AMB.same {σ : Nat → Option Nat} {A : Nat → Prop} {s U : State} {H : Heap} (hv : U.vm = s.vm) (h : AMB σ A s H) : AMB σ A U H := by
  obtain ⟨h1, h2, h3, h4, ⟨q5, e5, h5, h6⟩, h7⟩ := h
  have hA : s.vm.Alike U.vm := by rw [hv]; exact Vm.Alike.refl _
  refine ⟨fun q hq => (h1 q hq).same rfl hv.symm, fun o idx i hk => ?_, h3.moved hA, fun i hi => ?_, ⟨q5, e5, h5.moved hA, h6.moved hA⟩, h7.moved hA⟩
  · obtain ⟨tx, q, e, h⟩ := h2 o idx i hk
    exact ⟨tx, q, e, h.same hv⟩
  · obtain ⟨q, v, e1, e2, q1, q2, q3, q4⟩ := h4 i hi
    exact ⟨q, v, e1, e2, q1.moved hA, q2.moved hA, q3.moved hA, q4.moved hA⟩
theorem AMB.kept {σ : Nat → Option Nat} {A : Nat → Prop} {U : State} {H H1 : Heap} (hq : ∀ a : Nat, a < H.size → ¬ A a → H1[a]? = H[a]?) (h : AMB σ A U H) : AMB σ A U H1 := by
  obtain ⟨h1, h2, h3, h4, ⟨q5, e5, h5, h6⟩, h7⟩ := h
  refine ⟨h1, h2, h3.kept hq, fun i hi => ?_, ⟨q5, e5, h5.kept hq, h6.kept hq⟩, h7.kept hq⟩
  obtain ⟨q, v, e1, e2, q1, q2, q3, q4⟩ := h4 i hi
  exact ⟨q, v, e1, e2, q1.kept hq, q2.kept hq, q3.kept hq, q4.kept hq⟩
theorem AMB.narrow {σ : Nat → Option Nat} {A B : Nat → Prop} {U : State} {H : Heap} (hB : ∀ q, B q → A q) (h : AMB σ A U H) : AMB σ B U H := by
  obtain ⟨h1, h2, h3, h4, ⟨q5, e5, h5, h6⟩, h7⟩ := h
  refine ⟨h1, h2, h3.narrow hB, fun i hi => ?_, ⟨q5, e5, h5.narrow hB, h6.narrow hB⟩, h7.narrow hB⟩
  obtain ⟨q, v, e1, e2, q1, q2, q3, q4⟩ := h4 i hi
  exact ⟨q, v, e1, e2, q1.narrow hB, q2.narrow hB, q3.narrow hB, q4.narrow hB⟩
/-- a constant that may be loaded is a cell -/
theorem AMB.ref {σ : Nat → Option Nat} {A : Nat → Prop} {U : State} {H : Heap} (h : AMB σ A U H) {k : Nat} (hk : k < 29) : ∃ q, σ k = some q := by
  obtain ⟨-, -, -, h4, ⟨q5, e5, -⟩, -⟩ := h
  by_cases h0 : k = 0
  · exact ⟨q5, by rw [h0]; exact e5⟩
  · have hl : pStrs.length = 14 := by decide
    by_cases h1 : k < 15
    · obtain ⟨q, v, e1, -⟩ := h4 (k - 1) (by omega)
      exact ⟨q, by rw [show k = k - 1 + 1 by omega]; exact e1⟩
    · obtain ⟨q, v, -, e2, -⟩ := h4 (k - 15) (by omega)
      exact ⟨v, by rw [show k = k - 15 + 15 by omega]; exact e2⟩
abbrev prm (d : PMd) : Room := { frames := d.2.2.2.2.2.1, cells := 0, slots := 0, locals := d.2.2.2.2.2.2.1 }
/-- what stays through a method -/
def PCX (p : Program) (R : Room) (s : State) (m : MethodId) (args : Array Value) (meth : Method) (c : Code) (dC : Nat → ClassId) (dI : Nat → Nat → Nat) (A : Nat → Prop) (σ : Nat → Option Nat) (a : Nat → ClassId) (d : PMd) : Prop :=
  p.tables.exec = Jvm.exec ∧ c.code = d.2.2.1 ∧ meth.sig.returnType = d.2.2.2.2.1 ∧ c.maxLocals = d.2.2.2.1 ∧ (∀ w ∈ TB, w.before args s = true) ∧ s.vm.findClass (cn d.1) = some m.cls ∧ meth.locks = false ∧ va_K (dC, dI) vwCl (tysP a) s ∧ (∀ q : Nat, s.heap.size ≤ q → A q) ∧ R = prm d ∧ AMB σ A s s.heap
/-- what a step may change -/
def PDY (s : State) (H : Heap) (locs : List Loc) (ls : Array Slot) (dC : Nat → ClassId) (dI : Nat → Nat → Nat) (A : Nat → Prop) (ρ : Nat → Nat) (σ : Nat → Option Nat) (a : Nat → ClassId) (d : PMd) (L : PL) (h : PH) : Prop :=
  va_P (dC, dI) vwCl (toW ρ a h) H ∧ va_D A (toW ρ a h) ∧ va_S A s.heap H locs ∧ lv_has ls d.2.2.2.1 (plv ρ σ L)
section
variable {p : Program} {l : Launch} {e : Env} {R : Room} {s : State} {m : MethodId} {args : Array Value} {below : List Frame} {meth : Method} {c : Code} {H : Heap} {locs : List Loc} {Q : State → Prop} {pc n : Nat} {ls : Array Slot} {dC : Nat → ClassId} {dI : Nat → Nat → Nat} {A : Nat → Prop} {ρ : Nat → Nat} {σ : Nat → Option Nat} {a : Nat → ClassId} {h : PH} {L : PL} {st : List PV} {d : PMd} {i : Instr} {x : PN}
abbrev NXT (p : Program) (l : Launch) (e : Env) (R : Room) (s : State) (m : MethodId) (args : Array Value) (below : List Frame) (meth : Method) (c : Code) (Q : State → Prop) (dC : Nat → ClassId) (dI : Nat → Nat → Nat) (A : Nat → Prop) (ρ : Nat → Nat) (σ : Nat → Option Nat) (a : Nat → ClassId) (d : PMd) (x : PN) : Prop :=
  ∀ (H : Heap) (locs : List Loc) (ls : Array Slot), PDY s H locs ls dC dI A ρ σ a d x.2.1 x.2.2.2 → W p l e R s m args below meth c H locs 0 0 Q (F0 m x.1 ls (x.2.2.1.map (pv ρ σ)))
theorem s_Bin (C : PCX p R s m args meth c dC dI A σ a d) (hd : decode d.2.2.1 pc = .ok (i, n)) (hs : sBin i n pc L st h = some x) (hy : PDY s H locs ls dC dI A ρ σ a d L h) (kk : NXT p l e R s m args below meth c Q dC dI A ρ σ a d x) : W p l e R s m args below meth c H locs 0 0 Q (F0 m pc ls (st.map (pv ρ σ))) := by
  obtain ⟨hx, hb, -⟩ := C
  unfold sBin at hs
  split at hs
  · rename_i f y0 x0 st0 hg
    split at hs
    · rename_i z hz
      cases hs
      have kk := kk H locs ls hy
      unfold gBin at hg
      split at hg <;> cases hg
      · cases hz; exact lv_iadd hx hb hd kk
      · cases hz; exact lv_isub hx hb hd kk
      · cases hz; exact lv_imul hx hb hd kk
      · cases hz; exact lv_iand hx hb hd kk
      · cases hz; exact lv_ior hx hb hd kk
      · cases hz; exact lv_ixor hx hb hd kk
      · cases hz; exact lv_ishl hx hb hd kk
      · cases hz; exact lv_ishr hx hb hd kk
      · cases hz; exact lv_iushr hx hb hd rfl kk
      · dsimp only at hz
        split at hz
        · cases hz
        · cases hz; exact lv_idiv hx hb hd (by assumption) kk
      · dsimp only at hz
        split at hz
        · cases hz
        · cases hz; exact lv_irem hx hb hd (by assumption) kk
    · cases hs
  · cases hs
theorem s_BinL (C : PCX p R s m args meth c dC dI A σ a d) (hd : decode d.2.2.1 pc = .ok (i, n)) (hs : sBinL i n pc L st h = some x) (hy : PDY s H locs ls dC dI A ρ σ a d L h) (kk : NXT p l e R s m args below meth c Q dC dI A ρ σ a d x) : W p l e R s m args below meth c H locs 0 0 Q (F0 m pc ls (st.map (pv ρ σ))) := by
  obtain ⟨hx, hb, -⟩ := C
  unfold sBinL at hs
  split at hs
  · rename_i f y0 x0 st0 hg
    split at hs
    · rename_i z hz
      cases hs
      have kk := kk H locs ls hy
      unfold gBinL at hg
      split at hg <;> cases hg
      · cases hz; exact lv_ladd hx hb hd kk
      · cases hz; exact lv_lsub hx hb hd kk
      · cases hz; exact lv_lmul hx hb hd kk
      · cases hz; exact lv_land hx hb hd kk
      · cases hz; exact lv_lor hx hb hd kk
      · dsimp only at hz
        split at hz
        · cases hz
        · cases hz; exact lv_ldiv hx hb hd (by assumption) kk
      · dsimp only at hz
        split at hz
        · cases hz
        · cases hz; exact lv_lrem hx hb hd (by assumption) kk
    · cases hs
  · cases hs
theorem s_ShL (C : PCX p R s m args meth c dC dI A σ a d) (hd : decode d.2.2.1 pc = .ok (i, n)) (hs : sShL i n pc L st h = some x) (hy : PDY s H locs ls dC dI A ρ σ a d L h) (kk : NXT p l e R s m args below meth c Q dC dI A ρ σ a d x) : W p l e R s m args below meth c H locs 0 0 Q (F0 m pc ls (st.map (pv ρ σ))) := by
  obtain ⟨hx, hb, -⟩ := C
  unfold sShL at hs
  split at hs
  · rename_i f y0 x0 st0 hg
    cases hs
    have kk := kk H locs ls hy
    unfold gShL at hg
    split at hg <;> cases hg
    · exact lv_lshl hx hb hd rfl kk
    · exact lv_lshr hx hb hd rfl kk
    · exact lv_lushr hx hb hd rfl kk
  · cases hs
theorem s_Un (C : PCX p R s m args meth c dC dI A σ a d) (hd : decode d.2.2.1 pc = .ok (i, n)) (hs : sUn i n pc L st h = some x) (hy : PDY s H locs ls dC dI A ρ σ a d L h) (kk : NXT p l e R s m args below meth c Q dC dI A ρ σ a d x) : W p l e R s m args below meth c H locs 0 0 Q (F0 m pc ls (st.map (pv ρ σ))) := by
  obtain ⟨hx, hb, -⟩ := C
  unfold sUn at hs
  split at hs
  · rename_i f x0 st0 hg
    cases hs
    have kk := kk H locs ls hy
    unfold gUn at hg
    split at hg <;> cases hg
    · exact lv_ineg hx hb hd kk
    · exact lv_i2b hx hb hd rfl kk
    · exact lv_i2s hx hb hd rfl kk
    · exact lv_i2c hx hb hd rfl kk
  · cases hs
theorem s_Stk (C : PCX p R s m args meth c dC dI A σ a d) (hd : decode d.2.2.1 pc = .ok (i, n)) (hs : sStk i n pc L st h = some x) (hy : PDY s H locs ls dC dI A ρ σ a d L h) (kk : NXT p l e R s m args below meth c Q dC dI A ρ σ a d x) : W p l e R s m args below meth c H locs 0 0 Q (F0 m pc ls (st.map (pv ρ σ))) := by
  obtain ⟨hx, hb, -⟩ := C
  unfold sStk at hs
  split at hs
  · rename_i st1 hg
    cases hs
    have kk := kk H locs ls hy
    unfold gStk at hg
    split at hg
    · cases hg; exact lv_i2l hx hb hd rfl kk
    · cases hg; exact lv_l2i hx hb hd rfl kk
    · cases hg; exact lv_lneg hx hb hd kk
    · cases hg; exact W.lcmp hx hb hd kk
    · split at hg
      · cases hg; exact lv_dup hx hb hd (by rw [pv_cat]; assumption) kk
      · cases hg
    · split at hg
      · cases hg; exact lv_pop hx hb hd (by rw [pv_cat]; assumption) kk
      · cases hg
    · split at hg
      · cases hg; exact lv_pop2_2 hx hb hd (by rw [pv_cat]; assumption) kk
      · cases hg
    · split at hg
      · rename_i hc
        cases hg; exact lv_dup2_11 hx hb hd (by rw [pv_cat]; exact hc.1) (by rw [pv_cat]; exact hc.2) kk
      · cases hg
    · cases hg
  · cases hs
theorem s_Con (C : PCX p R s m args meth c dC dI A σ a d) (hd : decode d.2.2.1 pc = .ok (i, n)) (hs : sCon i n pc L st h = some x) (hy : PDY s H locs ls dC dI A ρ σ a d L h) (kk : NXT p l e R s m args below meth c Q dC dI A ρ σ a d x) : W p l e R s m args below meth c H locs 0 0 Q (F0 m pc ls (st.map (pv ρ σ))) := by
  obtain ⟨hx, hb, -⟩ := C
  unfold sCon at hs
  split at hs
  · rename_i v k hg
    split at hs
    · rename_i hk
      subst hk
      cases hs
      have kk := kk H locs ls hy
      unfold gCon at hg
      split at hg <;> cases hg
      · exact lv_iconst hx hb hd rfl kk
      · exact lv_bipush hx hb hd rfl kk
      · exact lv_sipush hx hb hd rfl kk
      · exact lv_lconst hx hb hd rfl kk
    · cases hs
  · cases hs
theorem s_Ld (C : PCX p R s m args meth c dC dI A σ a d) (hd : decode d.2.2.1 pc = .ok (i, n)) (hs : sLd i n pc L st h = some x) (hy : PDY s H locs ls dC dI A ρ σ a d L h) (kk : NXT p l e R s m args below meth c Q dC dI A ρ σ a d x) : W p l e R s m args below meth c H locs 0 0 Q (F0 m pc ls (st.map (pv ρ σ))) := by
  obtain ⟨hx, hb, hr, hml, hT, hown, hlk, hK, hA, hR, hM⟩ := C
  unfold sLd at hs
  split at hs
  · rename_i k t q hg
    split at hs
    · rename_i v hv
      split at hs
      · rename_i hk
        obtain ⟨hk, ht, ho⟩ := hk
        subst hk
        cases hs
        have kk := kk H locs ls hy
        have hat := pget_at hy.2.2.2 hv
        unfold gLd at hg
        split at hg <;> cases hg <;> rcases v with v | v | v | v <;> first | (exfalso; revert ht; simp only [pkind]; decide) | skip
        · exact lv_iload_n hx hb hd rfl hat kk
        · exact lv_iload hx hb hd hat kk
        · exact lv_lload_n hx hb hd rfl hat kk
        · exact lv_lload hx hb hd hat kk
        · exact lv_aload_n hx hb hd rfl hat kk
        · obtain ⟨q, hq⟩ := hM.ref (of_decide_eq_true ho)
          have hat : ls[_]? = some (Slot.val (va_rf (σ v))) := hat
          have kk : W p l e R s m args below meth c H locs 0 0 Q (F0 m _ ls (va_rf (σ v) :: st.map (pv ρ σ))) := kk
          rw [hq] at hat kk
          exact lv_aload_n hx hb hd rfl hat kk
        · exact lv_aload hx hb hd hat kk
        · obtain ⟨q, hq⟩ := hM.ref (of_decide_eq_true ho)
          have hat : ls[_]? = some (Slot.val (va_rf (σ v))) := hat
          have kk : W p l e R s m args below meth c H locs 0 0 Q (F0 m _ ls (va_rf (σ v) :: st.map (pv ρ σ))) := kk
          rw [hq] at hat kk
          exact lv_aload hx hb hd hat kk
      · cases hs
    · cases hs
  · cases hs
theorem s_St (C : PCX p R s m args meth c dC dI A σ a d) (hd : decode d.2.2.1 pc = .ok (i, n)) (hs : sSt d.2.2.2.1 i n pc L st h = some x) (hy : PDY s H locs ls dC dI A ρ σ a d L h) (kk : NXT p l e R s m args below meth c Q dC dI A ρ σ a d x) : W p l e R s m args below meth c H locs 0 0 Q (F0 m pc ls (st.map (pv ρ σ))) := by
  obtain ⟨hx, hb, hr, hml, hT, hown, hlk, hK, hA, hR, hM⟩ := C
  obtain ⟨hP, hD, hS, hl⟩ := hy
  unfold sSt at hs
  split at hs
  · rename_i k t q v st0 hg
    split at hs
    · rename_i hk
      obtain ⟨hk, ⟨ht, ho⟩, hn⟩ := hk
      subst hk
      cases hs
      unfold gSt at hg
      split at hg <;> cases hg <;> rcases v with v | v | v | v <;> first | (exfalso; revert ht; simp only [pkind]; decide) | skip
      · exact lv_istore_n hx hb hd rfl hl (Nat.lt_of_succ_lt_succ hn) (plv_set1 ρ σ L _ (.inl v)) (fun ls' hl' => kk H locs ls' ⟨hP, hD, hS, hl'⟩)
      · exact lv_istore hx hb hd hl (Nat.lt_of_succ_lt_succ hn) (plv_set1 ρ σ L _ (.inl v)) (fun ls' hl' => kk H locs ls' ⟨hP, hD, hS, hl'⟩)
      · exact lv_lstore_n hx hb hd rfl hl hn (plv_set2 ρ σ L _ (.inr (.inl v))) (fun ls' hl' => kk H locs ls' ⟨hP, hD, hS, hl'⟩)
      · exact lv_lstore hx hb hd hl hn (plv_set2 ρ σ L _ (.inr (.inl v))) (fun ls' hl' => kk H locs ls' ⟨hP, hD, hS, hl'⟩)
      · exact lv_astore_n hx hb hd rfl hl (Nat.lt_of_succ_lt_succ hn) (plv_set1 ρ σ L _ (.inr (.inr (.inl v)))) (fun ls' hl' => kk H locs ls' ⟨hP, hD, hS, hl'⟩)
      · obtain ⟨q, hq⟩ := hM.ref (of_decide_eq_true ho)
        show W p l e R s m args below meth c H locs 0 0 Q (F0 m pc ls (va_rf (σ v) :: st0.map (pv ρ σ)))
        have hset : ∀ j, (j, Value.ref q) :: (plv ρ σ L).filter (fun z => !(z.1 == j) && !(z.1 + 1 == j && z.2.category == 2)) = plv ρ σ (pset1 L j (.inr (.inr (.inr v)))) := fun j => by
          rw [← plv_set1]
          show _ = (j, va_rf (σ v)) :: _
          rw [hq]
          rfl
        rw [hq]
        exact lv_astore_n hx hb hd rfl hl (Nat.lt_of_succ_lt_succ hn) (hset _) (fun ls' hl' => kk H locs ls' ⟨hP, hD, hS, hl'⟩)
      · exact lv_astore hx hb hd hl (Nat.lt_of_succ_lt_succ hn) (plv_set1 ρ σ L _ (.inr (.inr (.inl v)))) (fun ls' hl' => kk H locs ls' ⟨hP, hD, hS, hl'⟩)
      · obtain ⟨q, hq⟩ := hM.ref (of_decide_eq_true ho)
        show W p l e R s m args below meth c H locs 0 0 Q (F0 m pc ls (va_rf (σ v) :: st0.map (pv ρ σ)))
        have hset : ∀ j, (j, Value.ref q) :: (plv ρ σ L).filter (fun z => !(z.1 == j) && !(z.1 + 1 == j && z.2.category == 2)) = plv ρ σ (pset1 L j (.inr (.inr (.inr v)))) := fun j => by
          rw [← plv_set1]
          show _ = (j, va_rf (σ v)) :: _
          rw [hq]
          rfl
        rw [hq]
        exact lv_astore hx hb hd hl (Nat.lt_of_succ_lt_succ hn) (hset _) (fun ls' hl' => kk H locs ls' ⟨hP, hD, hS, hl'⟩)
    · cases hs
  · cases hs
theorem s_Inc (C : PCX p R s m args meth c dC dI A σ a d) (hd : decode d.2.2.1 pc = .ok (i, n)) (hs : sInc d.2.2.2.1 i n pc L st h = some x) (hy : PDY s H locs ls dC dI A ρ σ a d L h) (kk : NXT p l e R s m args below meth c Q dC dI A ρ σ a d x) : W p l e R s m args below meth c H locs 0 0 Q (F0 m pc ls (st.map (pv ρ σ))) := by
  obtain ⟨hx, hb, -⟩ := C
  obtain ⟨hP, hD, hS, hl⟩ := hy
  unfold sInc at hs
  split at hs
  · rename_i k z
    split at hs
    · rename_i x0 hv
      split at hs
      · rename_i hk
        cases hs
        obtain ⟨j, hj⟩ := List.mem_iff_getElem?.mp (List.mem_map.mpr ⟨_, pget_mem hv, rfl⟩ : (k, pv ρ σ (.inl x0)) ∈ plv ρ σ L)
        exact lv_iinc hx hb hd hl hj rfl hk (plv_set1 ρ σ L _ (.inl _)) (fun ls' hl' => kk H locs ls' ⟨hP, hD, hS, hl'⟩)
      · cases hs
    · cases hs
  · cases hs
theorem ptg_eq {pc t : Nat} {off : Int} (h : ptg pc off = some t) : (pc : Int) + off = (t : Int) := by
  unfold ptg at h
  split at h
  · rename_i q hq
    cases h
    exact hq
  · cases h
theorem s_If (C : PCX p R s m args meth c dC dI A σ a d) (hd : decode d.2.2.1 pc = .ok (i, n)) (hs : sIf i n pc L st h = some x) (hy : PDY s H locs ls dC dI A ρ σ a d L h) (kk : NXT p l e R s m args below meth c Q dC dI A ρ σ a d x) : W p l e R s m args below meth c H locs 0 0 Q (F0 m pc ls (st.map (pv ρ σ))) := by
  obtain ⟨hx, hb, -⟩ := C
  unfold sIf at hs
  split at hs
  · rename_i f off x0 st0 hg
    split at hs
    · rename_i t ht
      have ht := ptg_eq ht
      have kt : f x0 = true → W p l e R s m args below meth c H locs 0 0 Q (F0 m t ls (st0.map (pv ρ σ))) := fun hf => by
        rw [if_pos hf] at hs
        cases hs
        exact kk H locs ls hy
      have kf : ¬ f x0 = true → W p l e R s m args below meth c H locs 0 0 Q (F0 m (pc + 3) ls (st0.map (pv ρ σ))) := fun hf => by
        rw [if_neg hf] at hs
        cases hs
        exact kk H locs ls hy
      clear hs kk
      unfold gIf at hg
      split at hg <;> cases hg
      · exact lv_if_eq hx hb hd ht (fun q => kt (decide_eq_true q)) (fun q => kf (fun z => q (of_decide_eq_true z)))
      · exact lv_if_ne hx hb hd ht (fun q => kt (decide_eq_true q)) (fun q => kf (fun z => (of_decide_eq_true z) q))
      · exact lv_if_lt hx hb hd ht (fun q => kt (decide_eq_true q)) (fun q => kf (fun z => q (of_decide_eq_true z)))
      · exact lv_if_ge hx hb hd ht (fun q => kt (decide_eq_true q)) (fun q => kf (fun z => q (of_decide_eq_true z)))
      · exact lv_if_gt hx hb hd ht (fun q => kt (decide_eq_true q)) (fun q => kf (fun z => q (of_decide_eq_true z)))
      · exact lv_if_le hx hb hd ht (fun q => kt (decide_eq_true q)) (fun q => kf (fun z => q (of_decide_eq_true z)))
    · cases hs
  · cases hs
theorem s_Cmp (C : PCX p R s m args meth c dC dI A σ a d) (hd : decode d.2.2.1 pc = .ok (i, n)) (hs : sCmp i n pc L st h = some x) (hy : PDY s H locs ls dC dI A ρ σ a d L h) (kk : NXT p l e R s m args below meth c Q dC dI A ρ σ a d x) : W p l e R s m args below meth c H locs 0 0 Q (F0 m pc ls (st.map (pv ρ σ))) := by
  obtain ⟨hx, hb, -⟩ := C
  unfold sCmp at hs
  split at hs
  · rename_i f off y0 x0 st0 hg
    split at hs
    · rename_i t ht
      have ht := ptg_eq ht
      have kt : f x0 y0 = true → W p l e R s m args below meth c H locs 0 0 Q (F0 m t ls (st0.map (pv ρ σ))) := fun hf => by
        rw [if_pos hf] at hs
        cases hs
        exact kk H locs ls hy
      have kf : ¬ f x0 y0 = true → W p l e R s m args below meth c H locs 0 0 Q (F0 m (pc + 3) ls (st0.map (pv ρ σ))) := fun hf => by
        rw [if_neg hf] at hs
        cases hs
        exact kk H locs ls hy
      clear hs kk
      unfold gCmp at hg
      split at hg <;> cases hg
      · exact lv_icmp_eq hx hb hd ht (fun q => kt (decide_eq_true q)) (fun q => kf (fun z => q (of_decide_eq_true z)))
      · exact lv_icmp_ne hx hb hd ht (fun q => kt (decide_eq_true q)) (fun q => kf (fun z => (of_decide_eq_true z) q))
      · exact lv_icmp_lt hx hb hd ht (fun q => kt (decide_eq_true q)) (fun q => kf (fun z => q (of_decide_eq_true z)))
      · exact lv_icmp_ge hx hb hd ht (fun q => kt (decide_eq_true q)) (fun q => kf (fun z => q (of_decide_eq_true z)))
      · exact lv_icmp_gt hx hb hd ht (fun q => kt (decide_eq_true q)) (fun q => kf (fun z => q (of_decide_eq_true z)))
      · exact lv_icmp_le hx hb hd ht (fun q => kt (decide_eq_true q)) (fun q => kf (fun z => q (of_decide_eq_true z)))
    · cases hs
  · cases hs
theorem s_Go (C : PCX p R s m args meth c dC dI A σ a d) (hd : decode d.2.2.1 pc = .ok (i, n)) (hs : sGo i n pc L st h = some x) (hy : PDY s H locs ls dC dI A ρ σ a d L h) (kk : NXT p l e R s m args below meth c Q dC dI A ρ σ a d x) : W p l e R s m args below meth c H locs 0 0 Q (F0 m pc ls (st.map (pv ρ σ))) := by
  obtain ⟨hx, hb, -⟩ := C
  unfold sGo at hs
  split at hs
  · split at hs
    · rename_i t ht
      cases hs
      exact lv_goto hx hb hd (ptg_eq ht) (kk H locs ls hy)
    · cases hs
  · split at hs
    · rename_i hc
      split at hs
      · rename_i t ht
        cases hs
        exact lv_tableOut hx hb hd hc (ptg_eq ht) (kk H locs ls hy)
      · cases hs
    · rename_i hc
      split at hs
      · rename_i off ho
        split at hs
        · rename_i t ht
          cases hs
          exact lv_tableIn hx hb hd (fun q => hc (Or.inl q)) (fun q => hc (Or.inr q)) ho (ptg_eq ht) (kk H locs ls hy)
        · cases hs
      · cases hs
  · cases hs
theorem s_Rd (C : PCX p R s m args meth c dC dI A σ a d) (hd : decode d.2.2.1 pc = .ok (i, n)) (hs : sRd d i n pc L st h = some x) (hy : PDY s H locs ls dC dI A ρ σ a d L h) (kk : NXT p l e R s m args below meth c Q dC dI A ρ σ a d x) : W p l e R s m args below meth c H locs 0 0 Q (F0 m pc ls (st.map (pv ρ σ))) := by
  obtain ⟨hx, hb, hr, hml, hT, hown, hlk, hK, hA, hR, hM⟩ := C
  have hy' := hy
  obtain ⟨hP, hD, hS, hl⟩ := hy'
  unfold sRd at hs
  split at hs
  · rename_i v st1 k1 hg
    split at hs
    · rename_i hk
      subst hk
      cases hs
      have kk := kk H locs ls hy
      unfold gRd at hg
      split at hg
      · rename_i idx k st0
        split at hg
        · rename_i ci j t ci' fs hf hsh
          split at hg
          · rename_i hci
            subst hci
            obtain ⟨pos, hc⟩ := ftab_ok hf
            unfold fchk at hc
            split at hc
            · rename_i q hq
              simp only [Bool.and_eq_true, decide_eq_true_eq] at hc
              obtain ⟨⟨hj, hw⟩, -⟩ := hc
              have hcl := cls_ok _ _ hq
              have hat := toW_at (ρ := ρ) (a := a) (h := h) hsh
              split at hg
              · rename_i r hr
                cases hg
                exact va_get (D := (dC, dI)) (C := q.1) (T := q.2.1) (N := q.2.2) hx hb hT hcl.1 hown hK hP k hat hq j hj (hT _ (tin_TB hw)) (fun _ z => z) (v := .ref (ρ r)) (by rw [List.getElem?_mapIdx, hr]; rfl) hd kk
              · rename_i hr
                cases hg
                exact va_get (D := (dC, dI)) (C := q.1) (T := q.2.1) (N := q.2.2) hx hb hT hcl.1 hown hK hP k hat hq j hj (hT _ (tin_TB hw)) (fun _ z => z) (v := .int (h.1 k j)) (by rw [List.getElem?_mapIdx, hr]; rfl) hd kk
              · rename_i hr
                cases hg
                exact va_get (D := (dC, dI)) (C := q.1) (T := q.2.1) (N := q.2.2) hx hb hT hcl.1 hown hK hP k hat hq j hj (hT _ (tin_TB hw)) (fun _ z => z) (v := .long (h.2 k j)) (by rw [List.getElem?_mapIdx, hr]; rfl) hd kk
              · cases hg
            · cases hc
          · cases hg
        · cases hg
      · rename_i i0 k st0
        split at hg
        · rename_i n0 hsh
          split at hg
          · rename_i hin
            cases hg
            exact va_iald hx hb hK hP k 0 (toW_at hsh) rfl (pin_vp hin) hd kk
          · cases hg
        · cases hg
      · rename_i idx i0 st0
        split at hg
        · rename_i hc
          obtain ⟨h12, hi0⟩ := hc
          obtain ⟨q, v0, e1, e2, q1, q2, q3, q4⟩ := hM.2.2.2.1 i0 hi0
          rw [h12] at hown
          split at hg
          · rename_i h9
            subst h9
            cases hg
            show W p l e R s m args below meth c H locs 0 0 Q (F0 m pc ls (va_rf (σ (i0 + 1)) :: st1.map (pv ρ σ)))
            have kk : W p l e R s m args below meth c H locs 0 0 Q (F0 m (pc + 3) ls (va_rf (σ (i0 + 15)) :: st1.map (pv ρ σ))) := kk
            rw [e1]
            rw [e2] at kk
            exact vk_getf (own := RJ0) hx hb q3 hS hown (hT _ jw_value) (fun _ z => z) hd kk
          · split at hg
            · rename_i h9 h15
              subst h15
              cases hg
              show W p l e R s m args below meth c H locs 0 0 Q (F0 m pc ls (va_rf (σ (i0 + 1)) :: st1.map (pv ρ σ)))
              rw [e1]
              exact vk_getf (own := RJ0) hx hb q2 hS hown (hT _ jw_coder) (fun _ z => z) hd kk
            · cases hg
        · cases hg
      · rename_i k0 st0
        split at hg
        · rename_i hc
          cases hg
          obtain ⟨q, v0, e1, e2, q1, q2, q3, q4⟩ := hM.2.2.2.1 (k0 - 15) hc.2
          rw [show k0 - 15 + 15 = k0 by omega] at e2
          show W p l e R s m args below meth c H locs 0 0 Q (F0 m pc ls (va_rf (σ k0) :: st1.map (pv ρ σ)))
          rw [e2]
          exact va_tlen hx hb q4 hS rfl hd kk
        · cases hg
      · rename_i i0 st0
        split at hg
        · rename_i hin
          cases hg
          obtain ⟨q5, e5, h5, h6⟩ := hM.2.2.2.2.1
          show W p l e R s m args below meth c H locs 0 0 Q (F0 m pc ls (.int i0 :: va_rf (σ 0) :: st1.map (pv ρ σ)))
          rw [e5]
          exact va_ti hx hb h6 hS (pin_vp hin) rfl hd kk
        · cases hg
      · rename_i i0 k st0
        split at hg
        · rename_i n0 hsh
          split at hg
          · rename_i hin
            cases hg
            exact va_bald hx hb hK hP k 1 (toW_at hsh) rfl (pin_vp hin) hd kk
          · cases hg
        · rename_i n0 hsh
          split at hg
          · rename_i hin
            cases hg
            exact va_zald hx hb hK hP k 2 (toW_at hsh) rfl (pin_vp hin) hd kk
          · cases hg
        · cases hg
      · rename_i i0 k0 st0
        split at hg
        · rename_i hc
          cases hg
          obtain ⟨q, v0, e1, e2, q1, q2, q3, q4⟩ := hM.2.2.2.1 (k0 - 15) hc.2.1
          rw [show k0 - 15 + 15 = k0 by omega] at e2
          show W p l e R s m args below meth c H locs 0 0 Q (F0 m pc ls (.int i0 :: va_rf (σ k0) :: st1.map (pv ρ σ)))
          rw [e2]
          exact va_tb hx hb q4 hS (pin_vp hc.2.2) rfl hd kk
        · cases hg
      · rename_i i0 k st0
        split at hg
        · rename_i n0 hsh
          split at hg
          · rename_i hin
            cases hg
            exact va_lald hx hb hK hP k 3 (toW_at hsh) rfl (pin_vp hin) hd kk
          · cases hg
        · cases hg
      · rename_i i0 k st0
        split at hg
        · rename_i rs hsh
          split at hg
          · rename_i hin
            cases hg
            exact va_aldq hx hb hK hP k 4 (toW_at hsh) rfl (pin_vp hin) hd kk
          · cases hg
        · cases hg
      · rename_i idx st0
        split at hg
        · rename_i x0 hk
          cases hg
          obtain ⟨pos, hc⟩ := ktab_ok hk
          exact lv_ldc hx hb hown (hT _ (tin_TB hc)) hd kk
        · rename_i i0 hk
          cases hg
          obtain ⟨tx, q, e1, hc⟩ := hM.2.1 _ _ _ hk
          have kk : W p l e R s m args below meth c H locs 0 0 Q (F0 m (pc + 2) ls (va_rf (σ (i0 + 1)) :: List.map (pv ρ σ) _)) := kk
          rw [e1] at kk
          exact va_ldcS hx hb hown hc hd kk
        · cases hg
      · rename_i idx st0
        split at hg
        · rename_i x0 hk
          cases hg
          obtain ⟨pos, hc⟩ := ktab_ok hk
          exact lv_ldcw hx hb hown (hT _ (tin_TB hc)) hd kk
        · cases hg
      · rename_i idx st0
        split at hg
        · rename_i x0 hk
          cases hg
          obtain ⟨pos, hc⟩ := ktab_ok hk
          exact lv_ldc2 hx hb hown (hT _ (tin_TB hc)) hd kk
        · cases hg
      · rename_i idx st0
        split at hg
        · rename_i hc
          cases hg
          obtain ⟨h8, rfl⟩ := hc
          rw [h8] at hown
          obtain ⟨q5, e5, h5, h6⟩ := hM.2.2.2.2.1
          have kk : W p l e R s m args below meth c H locs 0 0 Q (F0 m (pc + 3) ls (va_rf (σ 0) :: List.map (pv ρ σ) _)) := kk
          rw [e5] at kk
          exact va_gets (own := RX8) hx hb h5 hS hown (hT _ jw_fact) (fun _ z => z) hd kk
        · split at hg
          · rename_i hc
            cases hg
            obtain ⟨h8, rfl⟩ := hc
            rw [h8] at hown
            exact va_gets (own := RJ0) hx hb hM.2.2.1 hS hown (hT _ jw_compact) (fun _ z => z) hd kk
          · split at hg
            · rename_i hc
              cases hg
              obtain ⟨h8, rfl⟩ := hc
              rw [h8] at hown
              exact va_gets (own := RJ0) hx hb hM.2.2.2.2.2 hS hown (hT _ jw_form) (fun _ z => z) hd kk
            · cases hg
      · cases hg
    · cases hs
  · cases hs
theorem s_Wr (C : PCX p R s m args meth c dC dI A σ a d) (hd : decode d.2.2.1 pc = .ok (i, n)) (hs : sWr d i n pc L st h = some x) (hy : PDY s H locs ls dC dI A ρ σ a d L h) (kk : NXT p l e R s m args below meth c Q dC dI A ρ σ a d x) : W p l e R s m args below meth c H locs 0 0 Q (F0 m pc ls (st.map (pv ρ σ))) := by
  obtain ⟨hx, hb, hr, hml, hT, hown, hlk, hK, hA, hR, hM⟩ := C
  obtain ⟨hP, hD, hS, hl⟩ := hy
  unfold sWr at hs
  split at hs
  · rename_i h1 st1 k1 hg
    split at hs
    · rename_i hk
      subst hk
      cases hs
      unfold gWr at hg
      split at hg
      · rename_i idx v k st0
        split at hg
        · rename_i ci j t ci' fs hf hsh
          split at hg
          · rename_i hci
            subst hci
            obtain ⟨pos, hc⟩ := ftab_ok hf
            unfold fchk at hc
            split at hc
            · rename_i q hq
              simp only [Bool.and_eq_true, decide_eq_true_eq, Bool.or_eq_true, Bool.not_eq_true'] at hc
              obtain ⟨⟨hj, hw⟩, hty⟩ := hc
              obtain ⟨hcl, ⟨ty0, hty0⟩, hnm⟩ := cls_ok _ _ hq
              have hat := toW_at (ρ := ρ) (a := a) (h := h) hsh
              split at hg
              · rename_i x0 hfj
                split at hg
                · rename_i ht
                  cases hg
                  have hlen : j < (fs.mapIdx (pfv ρ h k)).length := by rw [List.length_mapIdx]; exact (List.getElem?_eq_some_iff.mp hfj).1
                  have hset := toW_rI (ρ := ρ) (a := a) (h := h) hsh (upd (h.1 k) j x0) (e := .inr (ci', (fs.mapIdx (pfv ρ h k)).set j (.int x0))) (by rw [pfs_I hfj]; rfl)
                  have go : ∀ ty : FieldType, parseFieldDescriptor (q.2.1 j).2.2.1 = some ty → (q.2.1 j).2.2.2 = false → narrow ty (.int x0) = .int x0 → fits ty (.int x0) = true → W p l e R s m args below meth c H locs 0 0 Q (F0 m pc ls (((.inl x0 : PV) :: .inr (.inr (.inl k)) :: st1).map (pv ρ σ))) := fun ty e1 e2 e3 e4 =>
                    va_put (D := (dC, dI)) (C := q.1) (T := q.2.1) (N := q.2.2) hx hb hT hcl ty0 hty0 hnm hown hK hP hD hS k hat hq j hj (hT _ (tin_TB hw)) (fun _ z => z) e2 (ty := ty) (v := .int x0) e1 e3 e4 hlen hd (fun H1 locs1 hP1 hD1 hS1 => kk H1 locs1 ls ⟨by rw [← hset]; exact hP1, by rw [← hset]; exact hD1, hS1, hl⟩)
                  rcases ht with rfl | ⟨rfl, h01⟩
                  · rcases hty with hty | hty
                    · exact absurd hty (by decide)
                    · exact go .int hty.1 hty.2 rfl rfl
                  · rcases hty with hty | hty
                    · exact absurd hty (by decide)
                    · exact go .boolean hty.1 hty.2 (by rcases h01 with rfl | rfl <;> rfl) (by rcases h01 with rfl | rfl <;> rfl)
                · cases hg
              · rename_i x0 hfj
                split at hg
                · rename_i ht
                  cases hg
                  subst ht
                  have hlen : j < (fs.mapIdx (pfv ρ h k)).length := by rw [List.length_mapIdx]; exact (List.getElem?_eq_some_iff.mp hfj).1
                  have hset := toW_rL (ρ := ρ) (a := a) (h := h) hsh (vp_updL (h.2 k) j x0) (e := .inr (ci', (fs.mapIdx (pfv ρ h k)).set j (.long x0))) (by rw [pfs_L hfj]; rfl)
                  rcases hty with hty | hty
                  · exact absurd hty (by decide)
                  · exact va_put (D := (dC, dI)) (C := q.1) (T := q.2.1) (N := q.2.2) hx hb hT hcl ty0 hty0 hnm hown hK hP hD hS k hat hq j hj (hT _ (tin_TB hw)) (fun _ z => z) hty.2 (ty := .long) (v := .long x0) hty.1 rfl rfl hlen hd (fun H1 locs1 hP1 hD1 hS1 => kk H1 locs1 ls ⟨by rw [← hset]; exact hP1, by rw [← hset]; exact hD1, hS1, hl⟩)
                · cases hg
              · cases hg
            · cases hc
          · cases hg
        · cases hg
      · rename_i x0 i0 k st0
        split at hg
        · rename_i n0 hsh
          split at hg
          · rename_i hin
            cases hg
            have hset := toW_rI (ρ := ρ) (a := a) (h := h) hsh (upd (h.1 k) i0.toNatClampNeg x0) (e := .inl (a 0, n0, .inl (upd (h.1 k) i0.toNatClampNeg x0))) (by show Sum.inl (a 0, n0, Sum.inl (rI h.1 k (upd (h.1 k) i0.toNatClampNeg x0) k)) = _; rw [rI_self])
            exact va_iast hx hb hK hP hD hS k 0 (toW_at hsh) rfl (pin_vp hin) hd (fun H1 locs1 hP1 hD1 hS1 => kk H1 locs1 ls ⟨by rw [← hset]; exact hP1, by rw [← hset]; exact hD1, hS1, hl⟩)
          · cases hg
        · cases hg
      · rename_i x0 i0 k st0
        split at hg
        · rename_i n0 hsh
          split at hg
          · rename_i hin
            cases hg
            have hset := toW_rI (ρ := ρ) (a := a) (h := h) hsh (upd (h.1 k) i0.toNatClampNeg (vp_nar .byte x0)) (e := .inl (a 1, n0, .inl (upd (h.1 k) i0.toNatClampNeg (vp_nar .byte x0)))) (by show Sum.inl (a 1, n0, Sum.inl (rI h.1 k (upd (h.1 k) i0.toNatClampNeg (vp_nar .byte x0)) k)) = _; rw [rI_self])
            exact va_bast hx hb hK hP hD hS k 1 (toW_at hsh) rfl (pin_vp hin) hd (fun H1 locs1 hP1 hD1 hS1 => kk H1 locs1 ls ⟨by rw [← hset]; exact hP1, by rw [← hset]; exact hD1, hS1, hl⟩)
          · cases hg
        · rename_i n0 hsh
          split at hg
          · rename_i hin
            cases hg
            have hset := toW_rI (ρ := ρ) (a := a) (h := h) hsh (upd (h.1 k) i0.toNatClampNeg (vp_nar .boolean x0)) (e := .inl (a 2, n0, .inl (upd (h.1 k) i0.toNatClampNeg (vp_nar .boolean x0)))) (by show Sum.inl (a 2, n0, Sum.inl (rI h.1 k (upd (h.1 k) i0.toNatClampNeg (vp_nar .boolean x0)) k)) = _; rw [rI_self])
            exact va_zast hx hb hK hP hD hS k 2 (toW_at hsh) rfl (pin_vp hin) hd (fun H1 locs1 hP1 hD1 hS1 => kk H1 locs1 ls ⟨by rw [← hset]; exact hP1, by rw [← hset]; exact hD1, hS1, hl⟩)
          · cases hg
        · cases hg
      · rename_i x0 i0 k st0
        split at hg
        · rename_i n0 hsh
          split at hg
          · rename_i hin
            cases hg
            have hset := toW_rL (ρ := ρ) (a := a) (h := h) hsh (vp_updL (h.2 k) i0.toNatClampNeg x0) (e := .inl (a 3, n0, .inr (.inl (vp_updL (h.2 k) i0.toNatClampNeg x0)))) (by show Sum.inl (a 3, n0, Sum.inr (Sum.inl (rL h.2 k (vp_updL (h.2 k) i0.toNatClampNeg x0) k))) = _; rw [rL_self])
            exact va_last hx hb hK hP hD hS k 3 (toW_at hsh) rfl (pin_vp hin) hd (fun H1 locs1 hP1 hD1 hS1 => kk H1 locs1 ls ⟨by rw [← hset]; exact hP1, by rw [← hset]; exact hD1, hS1, hl⟩)
          · cases hg
        · cases hg
      · cases hg
    · cases hs
  · cases hs
end
