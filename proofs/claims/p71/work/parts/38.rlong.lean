/-! methods that write no long leave all longs as they are -/
def noL (S : List Nat) (o : Nat) : Instr → Bool
  | .lastore => false
  | .putfield idx => match ftab o idx with
    | some (_, _, t) => decide (t ≠ 2)
    | none => true
  | .invokestatic idx => match mtab o idx with
    | some (t, m, _) => if t = 3 then decide (m ≠ 6) else S.contains m
    | none => true
  | .invokevirtual idx => match mtab o idx with
    | some (_, m, _) => S.contains m
    | none => true
  | _ => true
def noLm (S : List Nat) (d : PMd) : Bool := d.2.2.2.2.2.2.2.all (fun e => match e with
  | none => true
  | some e => noL S d.1 e.1)
def noLs (S : List Nat) : Bool := S.all (fun m => match PP[m]? with
  | some d => noLm S d
  | none => true)
theorem nl_bin {i : Instr} {n pc : Nat} {L : PL} {st : List PV} {h : PH} {x : PN} (e : sBin i n pc L st h = some x) : x.2.2.2 = h := by
  unfold sBin at e
  (repeat' split at e) <;> cases e <;> rfl
theorem nl_binL {i : Instr} {n pc : Nat} {L : PL} {st : List PV} {h : PH} {x : PN} (e : sBinL i n pc L st h = some x) : x.2.2.2 = h := by
  unfold sBinL at e
  (repeat' split at e) <;> cases e <;> rfl
theorem nl_shL {i : Instr} {n pc : Nat} {L : PL} {st : List PV} {h : PH} {x : PN} (e : sShL i n pc L st h = some x) : x.2.2.2 = h := by
  unfold sShL at e
  (repeat' split at e) <;> cases e <;> rfl
theorem nl_un {i : Instr} {n pc : Nat} {L : PL} {st : List PV} {h : PH} {x : PN} (e : sUn i n pc L st h = some x) : x.2.2.2 = h := by
  unfold sUn at e
  (repeat' split at e) <;> cases e <;> rfl
theorem nl_stk {i : Instr} {n pc : Nat} {L : PL} {st : List PV} {h : PH} {x : PN} (e : sStk i n pc L st h = some x) : x.2.2.2 = h := by
  unfold sStk at e
  (repeat' split at e) <;> cases e <;> rfl
theorem nl_con {i : Instr} {n pc : Nat} {L : PL} {st : List PV} {h : PH} {x : PN} (e : sCon i n pc L st h = some x) : x.2.2.2 = h := by
  unfold sCon at e
  (repeat' split at e) <;> cases e <;> rfl
theorem nl_if {i : Instr} {n pc : Nat} {L : PL} {st : List PV} {h : PH} {x : PN} (e : sIf i n pc L st h = some x) : x.2.2.2 = h := by
  unfold sIf at e
  (repeat' split at e) <;> cases e <;> rfl
theorem nl_cmp {i : Instr} {n pc : Nat} {L : PL} {st : List PV} {h : PH} {x : PN} (e : sCmp i n pc L st h = some x) : x.2.2.2 = h := by
  unfold sCmp at e
  (repeat' split at e) <;> cases e <;> rfl
theorem nl_go {i : Instr} {n pc : Nat} {L : PL} {st : List PV} {h : PH} {x : PN} (e : sGo i n pc L st h = some x) : x.2.2.2 = h := by
  unfold sGo at e
  (repeat' split at e) <;> cases e <;> rfl
theorem nl_rd {d : PMd} {i : Instr} {n pc : Nat} {L : PL} {st : List PV} {h : PH} {x : PN} (e : sRd d i n pc L st h = some x) : x.2.2.2 = h := by
  unfold sRd at e
  (repeat' split at e) <;> cases e <;> rfl
theorem nl_ld {i : Instr} {n pc : Nat} {L : PL} {st : List PV} {h : PH} {x : PN} (e : sLd i n pc L st h = some x) : x.2.2.2 = h := by
  unfold sLd at e
  (repeat' split at e) <;> cases e <;> rfl
theorem nl_st {m : Nat} {i : Instr} {n pc : Nat} {L : PL} {st : List PV} {h : PH} {x : PN} (e : sSt m i n pc L st h = some x) : x.2.2.2 = h := by
  unfold sSt at e
  (repeat' split at e) <;> cases e <;> rfl
theorem nl_inc {m : Nat} {i : Instr} {n pc : Nat} {L : PL} {st : List PV} {h : PH} {x : PN} (e : sInc m i n pc L st h = some x) : x.2.2.2 = h := by
  unfold sInc at e
  (repeat' split at e) <;> cases e <;> rfl
theorem nl_wr {S : List Nat} {d : PMd} {i : Instr} {n pc : Nat} {L : PL} {st : List PV} {h : PH} {x : PN} (hi : noL S d.1 i = true) (e : sWr d i n pc L st h = some x) : x.2.2.2.2 = h.2 := by
  unfold sWr at e
  split at e
  · rename_i h' st' m eg
    split at e
    · injection e with e
      subst e
      show h'.2 = h.2
      unfold gWr at eg
      split at eg
      · rename_i idx v k st2
        split at eg
        · rename_i ci j t ci' fs e1 e2
          have hi' : (match ftab d.1 idx with | some (_, _, t) => decide (t ≠ 2) | none => true) = true := hi
          rw [e1] at hi'
          have ht : t ≠ 2 := of_decide_eq_true hi'
          split at eg
          · split at eg
            · split at eg
              · injection eg with eg; injection eg with a b; rw [← a]
              · cases eg
            · first | cases eg | (rw [if_neg ht] at eg; cases eg)
            · cases eg
          · cases eg
        · cases eg
      · split at eg
        · split at eg
          · injection eg with eg; injection eg with a b; rw [← a]
          · cases eg
        · cases eg
      · split at eg
        · split at eg
          · injection eg with eg; injection eg with a b; rw [← a]
          · cases eg
        · split at eg
          · injection eg with eg; injection eg with a b; rw [← a]
          · cases eg
        · cases eg
      · unfold noL at hi
        cases hi
      · cases eg
    · cases e
  · cases e
theorem nl_nat {S : List Nat} {d : PMd} {i : Instr} {n pc : Nat} {L : PL} {st : List PV} {h : PH} {x : PN} (hi : noL S d.1 i = true) (e : sNat d i n pc L st h = some x) : x.2.2.2.2 = h.2 := by
  unfold sNat at e
  split at e
  · rename_i idx vt eg
    split at e
    · rename_i t b a em
      split at e
      · rename_i c
        split at e
        · rename_i st' h' en
          split at e
          · injection e with e
            subst e
            show h'.2 = h.2
            have hb : b ≠ 6 := by
              unfold gInv at eg
              split at eg
              · injection eg with eg; injection eg with a1 a2; rw [c.2] at a2; cases a2
              · injection eg with eg
                injection eg with a1 a2
                subst a1
                have hi' : (match mtab d.1 _ with | some (t, m, _) => if t = 3 then decide (m ≠ 6) else S.contains m | none => true) = true := hi
                rw [em] at hi'
                dsimp only at hi'
                rw [if_pos c.1] at hi'
                exact of_decide_eq_true hi'
              · cases eg
            unfold gNat at en
            rw [if_neg hb] at en
            unfold gMath at en
            split at en <;> cases en <;> rfl
          · cases e
        · cases e
      · cases e
    · cases e
  · cases e
theorem or_some {α : Type} {a b : Option α} {x : α} (h : a.or b = some x) : a = some x ∨ b = some x := by
  cases a with
  | none => exact Or.inr h
  | some y => exact Or.inl h
theorem nl_next {S : List Nat} {d : PMd} {i : Instr} {n pc : Nat} {L : PL} {st : List PV} {h : PH} {x : PN} (hi : noL S d.1 i = true) (e : pnext d i n pc L st h = some x) : x.2.2.2.2 = h.2 := by
  unfold pnext at e
  rcases or_some e with e | e
  · rw [nl_bin e]
  rcases or_some e with e | e
  · rw [nl_binL e]
  rcases or_some e with e | e
  · rw [nl_shL e]
  rcases or_some e with e | e
  · rw [nl_un e]
  rcases or_some e with e | e
  · rw [nl_stk e]
  rcases or_some e with e | e
  · rw [nl_con e]
  rcases or_some e with e | e
  · rw [nl_if e]
  rcases or_some e with e | e
  · rw [nl_cmp e]
  rcases or_some e with e | e
  · rw [nl_go e]
  rcases or_some e with e | e
  · rw [nl_rd e]
  rcases or_some e with e | e
  · exact nl_wr hi e
  rcases or_some e with e | e
  · exact nl_nat hi e
  rcases or_some e with e | e
  · rw [nl_ld e]
  rcases or_some e with e | e
  · rw [nl_st e]
  · rw [nl_inc e]
theorem gInv_is {i : Instr} {idx : Nat} {vt : Bool} (h : gInv i = some (idx, vt)) : (vt = true ∧ i = .invokevirtual idx) ∨ (vt = false ∧ i = .invokestatic idx) := by
  unfold gInv at h
  split at h
  · injection h with h; injection h with a b; subst a b; exact Or.inl ⟨rfl, rfl⟩
  · injection h with h; injection h with a b; subst a b; exact Or.inr ⟨rfl, rfl⟩
  · cases h
theorem pinv_S {S : List Nat} {d : PMd} {i : Instr} {n : Nat} {st : List PV} {c : Nat × List PV × List PV} (hi : noL S d.1 i = true) (ec : pinv d i n st = some c) : S.contains c.1 = true := by
  by_cases hn : n = 3
  · subst hn
    cases hg : gInv i with
    | none =>
      have : pinv d i 3 st = none := by
        unfold pinv
        rw [hg]
      rw [this] at ec
      cases ec
    | some q =>
      obtain ⟨idx, vt⟩ := q
      cases em : mtab d.1 idx with
      | none =>
        have : pinv d i 3 st = none := by
          unfold pinv
          rw [hg]
          show (match mtab d.1 idx with | some (t, m, a) => _ | none => _) = _
          rw [em]
        rw [this] at ec
        cases ec
      | some w =>
        obtain ⟨t, m, a⟩ := w
        cases hp : PP[m]? with
        | none => rw [pinv_no hg em hp] at ec; cases ec
        | some d' =>
          rw [pinv_eq hg em hp] at ec
          have key : vt = true ∨ ¬ t = 3 → S.contains m = true := by
            intro hv
            rcases gInv_is hg with ⟨e1, e2⟩ | ⟨e1, e2⟩
            · subst e2
              have hi' : (match mtab d.1 idx with | some (_, m, _) => S.contains m | none => true) = true := hi
              rw [em] at hi'
              exact hi'
            · subst e2
              have hi' : (match mtab d.1 idx with | some (t, m, _) => if t = 3 then decide (m ≠ 6) else S.contains m | none => true) = true := hi
              rw [em] at hi'
              dsimp only at hi'
              have ht : ¬ t = 3 := hv.elim (fun z => by rw [e1] at z; cases z) id
              rw [if_neg ht] at hi'
              exact hi'
          split at ec
          · split at ec
            · rename_i cv
              split at ec
              · split at ec
                · injection ec with ec
                  subst ec
                  exact key (Or.inl cv.1)
                · cases ec
              · cases ec
            · split at ec
              · rename_i cv
                split at ec
                · injection ec with ec
                  subst ec
                  exact key (Or.inr (by omega))
                · cases ec
              · cases ec
          · cases ec
  · exfalso
    unfold pinv at ec
    split at ec
    · exact hn rfl
    · cases ec
theorem nl_run {S : List Nat} (hS : noLs S = true) : ∀ (f : Nat) (d : PMd) (pc : Nat) (L : PL) (st : List PV) (h : PH) (r : Option PV) (h' : PH), noLm S d = true → prun f d pc L st h = some (r, h') → h'.2 = h.2 := by
  intro f
  induction f with
  | zero => intro d pc L st h r h' _ e; cases e
  | succ f ih =>
    intro d pc L st h r h' hd e
    have e' : pbody (prun f) d pc L st h = some (r, h') := e
    unfold pbody at e'
    cases ho : pone d pc L st h with
    | none => rw [ho] at e'; cases e'
    | some o =>
      rw [ho] at e'
      unfold pone at ho
      split at ho
      · rename_i i n eg
        have hi : noL S d.1 i = true := by
          have := List.all_eq_true.mp hd (some (i, n)) (List.mem_of_getElem? eg)
          exact this
        split at ho
        · injection ho with ho
          subst ho
          injection e' with e'
          injection e' with a b
          rw [← b]
        · split at ho
          · rename_i c ec
            injection ho with ho
            subst ho
            dsimp only at e'
            cases hp : PP[c.1]? with
            | none => rw [hp] at e'; cases e'
            | some d' =>
              rw [hp] at e'
              dsimp only at e'
              cases hc : prun f d' 0 (pargs 0 c.2.1) [] h with
              | none => rw [hc] at e'; cases e'
              | some y =>
                rw [hc] at e'
                dsimp only at e'
                have hcS : S.contains c.1 = true := pinv_S hi ec
                have hd' : noLm S d' = true := by
                  have hm : c.1 ∈ S := by simpa using hcS
                  have := List.all_eq_true.mp hS c.1 hm
                  rw [hp] at this
                  exact this
                have h1 := ih d' 0 _ [] h y.1 y.2 hd' hc
                have h2 := ih d (pc + 3) L _ y.2 r h' hd e'
                rw [h2, h1]
          · split at ho
            · rename_i x en
              injection ho with ho
              subst ho
              dsimp only at e'
              have h1 := nl_next hi en
              have h2 := ih d x.1 x.2.1 x.2.2.1 x.2.2.2 r h' hd e'
              rw [h2, h1]
            · cases ho
      · cases ho
theorem CALL_nl {S : List Nat} (hS : noLs S = true) {d : PMd} (hd : noLm S d = true) {vs : List PV} {h : PH} {Q : Option PV → PH → Prop} (hc : CALL d vs h Q) : CALL d vs h (fun r h' => Q r h' ∧ h'.2 = h.2) := by
  obtain ⟨f, r, h', h1, h2⟩ := hc
  exact ⟨f, r, h', h1, h2, nl_run hS f d _ _ _ h r h' hd h1⟩
