/-! More locals than are needed do no harm. -/
def psub (L1 L2 : PL) : Prop := ∀ q ∈ L1, pget L2 q.1 = some q.2
theorem psub_nil (L : PL) : psub [] L := fun _ h => by cases h
theorem psub_cons {i : Nat} {v : PV} {L1 L2 : PL} (h : pget L2 i = some v) (hs : psub L1 L2) : psub ((i, v) :: L1) L2 := fun q hq => by
  rcases List.mem_cons.mp hq with rfl | hq
  · exact h
  · exact hs q hq
theorem psub.get {L1 L2 : PL} (hs : psub L1 L2) {i : Nat} {v : PV} (h : pget L1 i = some v) : pget L2 i = some v := hs (i, v) (pget_mem h)
theorem pget_fil {f : Nat × PV → Bool} {j : Nat} {w : PV} (hf : f (j, w) = true) : ∀ {L : PL}, pget L j = some w → pget (L.filter f) j = some w := by
  intro L
  induction L with
  | nil => intro h; cases h
  | cons q L ih =>
    intro h
    unfold pget at h
    split at h
    · rename_i e
      cases h
      have hq : f q = true := by rw [← hf, ← e]
      rw [List.filter_cons_of_pos hq]
      unfold pget
      rw [if_pos e]
    · rename_i e
      by_cases hq : f q = true
      · rw [List.filter_cons_of_pos hq]
        unfold pget
        rw [if_neg e]
        exact ih h
      · rw [List.filter_cons_of_neg hq]
        exact ih h
theorem pget_hd (i : Nat) (v : PV) (L : PL) : pget ((i, v) :: L) i = some v := by unfold pget; rw [if_pos rfl]
theorem pget_tl {i j : Nat} (v : PV) (L : PL) (h : ¬ i = j) : pget ((i, v) :: L) j = pget L j := by conv => lhs; unfold pget; rw [if_neg h]
theorem psub_set1 {L1 L2 : PL} (hs : psub L1 L2) (i : Nat) (v : PV) : psub (pset1 L1 i v) (pset1 L2 i v) := fun q hq => by
  unfold pset1 at hq ⊢
  rcases List.mem_cons.mp hq with rfl | hq
  · exact pget_hd _ _ _
  · obtain ⟨h1, h2⟩ := List.mem_filter.mp hq
    have hne : ¬ i = q.1 := fun e => by subst e; simp at h2
    rw [pget_tl v _ hne]
    exact pget_fil h2 (hs q h1)
theorem psub_set2 {L1 L2 : PL} (hs : psub L1 L2) (i : Nat) (v : PV) : psub (pset2 L1 i v) (pset2 L2 i v) := fun q hq => by
  unfold pset2 at hq ⊢
  rcases List.mem_cons.mp hq with rfl | hq
  · exact pget_hd _ _ _
  · obtain ⟨h1, h2⟩ := List.mem_filter.mp hq
    have hne : ¬ i = q.1 := fun e => by subst e; simp at h2
    rw [pget_tl v _ hne]
    exact pget_fil h2 (hs q h1)
/-! groups that don't look at the locals -/
abbrev setL (L : PL) (x : PN) : PN := (x.1, L, x.2.2.1, x.2.2.2)
theorem ind_of {G : PL → Option PN} (hG : ∀ L, G L = (G []).map (setL L)) {L1 : PL} (L2 : PL) {x : PN} (h : G L1 = some x) : G L2 = some (setL L2 x) ∧ x.2.1 = L1 := by
  rw [hG L1] at h
  rw [hG L2]
  cases hg : G [] with
  | none => rw [hg] at h; cases h
  | some y => rw [hg] at h; cases h; exact ⟨rfl, rfl⟩
theorem ind_no {G : PL → Option PN} (hG : ∀ L, G L = (G []).map (setL L)) {L1 : PL} (L2 : PL) (h : G L1 = none) : G L2 = none := by
  rw [hG L1] at h
  rw [hG L2]
  cases hg : G [] with
  | none => rfl
  | some y => rw [hg] at h; cases h
section
variable (d : PMd) (i : Instr) (n pc : Nat) (st : List PV) (h : PH)
theorem in_Bin (L : PL) : sBin i n pc L st h = (sBin i n pc [] st h).map (setL L) := by unfold sBin; repeat' (first | rfl | split)
theorem in_BinL (L : PL) : sBinL i n pc L st h = (sBinL i n pc [] st h).map (setL L) := by unfold sBinL; repeat' (first | rfl | split)
theorem in_ShL (L : PL) : sShL i n pc L st h = (sShL i n pc [] st h).map (setL L) := by unfold sShL; repeat' (first | rfl | split)
theorem in_Un (L : PL) : sUn i n pc L st h = (sUn i n pc [] st h).map (setL L) := by unfold sUn; repeat' (first | rfl | split)
theorem in_Stk (L : PL) : sStk i n pc L st h = (sStk i n pc [] st h).map (setL L) := by unfold sStk; repeat' (first | rfl | split)
theorem in_Con (L : PL) : sCon i n pc L st h = (sCon i n pc [] st h).map (setL L) := by unfold sCon; repeat' (first | rfl | split)
theorem in_If (L : PL) : sIf i n pc L st h = (sIf i n pc [] st h).map (setL L) := by unfold sIf; repeat' (first | rfl | split)
theorem in_Cmp (L : PL) : sCmp i n pc L st h = (sCmp i n pc [] st h).map (setL L) := by unfold sCmp; repeat' (first | rfl | split)
theorem in_Go (L : PL) : sGo i n pc L st h = (sGo i n pc [] st h).map (setL L) := by unfold sGo; repeat' (first | rfl | split)
theorem in_Rd (L : PL) : sRd d i n pc L st h = (sRd d i n pc [] st h).map (setL L) := by unfold sRd; repeat' (first | rfl | split)
theorem in_Wr (L : PL) : sWr d i n pc L st h = (sWr d i n pc [] st h).map (setL L) := by unfold sWr; repeat' (first | rfl | split)
theorem in_Nat (L : PL) : sNat d i n pc L st h = (sNat d i n pc [] st h).map (setL L) := by unfold sNat; repeat' (first | rfl | split)
end
theorem gLd_St {i : Instr} (h : (gSt i).isSome = true) : gLd i = none := by unfold gSt at h; split at h <;> first | rfl | cases h
theorem gLd_Inc {k : Nat} {z : Int} : gLd (.iinc k z) = none ∧ gSt (.iinc k z) = none := ⟨rfl, rfl⟩
theorem sInc_at {ml k pc : Nat} {z : Int} {L : PL} {st : List PV} {h : PH} {x : Int32} (hv : pget L k = some (.inl x)) (hm : k < ml) : sInc ml (.iinc k z) 3 pc L st h = some (pc + 3, pset1 L k (.inl (x + Int32.ofInt z)), st, h) := by
  show (match pget L k with
    | some (.inl x) => if k < ml then some (pc + 3, pset1 L k (.inl (x + Int32.ofInt z)), st, h) else none
    | _ => none) = _
  rw [hv]
  show (if k < ml then some (pc + 3, pset1 L k (.inl (x + Int32.ofInt z)), st, h) else none) = _
  rw [if_pos hm]
theorem inc_weak {ml : Nat} {i : Instr} {n pc : Nat} {st : List PV} {h : PH} {L1 L2 : PL} {x : PN} (hs : psub L1 L2) (hx : sInc ml i n pc L1 st h = some x) : ∃ L, sInc ml i n pc L2 st h = some (x.1, L, x.2.2.1, x.2.2.2) ∧ psub x.2.1 L ∧ gLd i = none ∧ gSt i = none := by
  unfold sInc at hx
  split at hx
  · rename_i k z
    split at hx
    · rename_i x0 hv
      split at hx
      · rename_i hm
        cases hx
        refine ⟨pset1 L2 k (.inl (x0 + Int32.ofInt z)), ?_, psub_set1 hs _ _, rfl, rfl⟩
        rw [sInc_at (hs.get hv) hm]
      · cases hx
    · cases hx
  · cases hx
theorem nx_weak {d : PMd} {i : Instr} {n pc : Nat} {st : List PV} {h : PH} {L1 L2 : PL} {x : PN} (hs : psub L1 L2) (hx : pnext d i n pc L1 st h = some x) : ∃ L, pnext d i n pc L2 st h = some (x.1, L, x.2.2.1, x.2.2.2) ∧ psub x.2.1 L := by
  unfold pnext at hx ⊢
  have key : ∀ {G : PL → Option PN} (hG : ∀ L, G L = (G []).map (setL L)) {a1 a2 : Option PN}, (G L1).or a1 = some x → (∀ q : G L2 = none, a1 = some x → ∃ L, a2 = some (x.1, L, x.2.2.1, x.2.2.2) ∧ psub x.2.1 L) → ∃ L, (G L2).or a2 = some (x.1, L, x.2.2.1, x.2.2.2) ∧ psub x.2.1 L := by
    intro G hG a1 a2 h1 h2
    rcases Option.or_eq_some_iff.mp h1 with h1 | ⟨h0, h1⟩
    · obtain ⟨e1, e2⟩ := ind_of hG L2 h1
      refine ⟨L2, ?_, by rw [e2]; exact hs⟩
      rw [e1]
      rfl
    · have h0' := ind_no hG L2 h0
      obtain ⟨L, e1, e2⟩ := h2 h0' h1
      refine ⟨L, ?_, e2⟩
      rw [h0']
      exact e1
  refine key (G := fun L => sBin i n pc L st h) (in_Bin i n pc st h) hx (fun _ hx => ?_)
  refine key (G := fun L => sBinL i n pc L st h) (in_BinL i n pc st h) hx (fun _ hx => ?_)
  refine key (G := fun L => sShL i n pc L st h) (in_ShL i n pc st h) hx (fun _ hx => ?_)
  refine key (G := fun L => sUn i n pc L st h) (in_Un i n pc st h) hx (fun _ hx => ?_)
  refine key (G := fun L => sStk i n pc L st h) (in_Stk i n pc st h) hx (fun _ hx => ?_)
  refine key (G := fun L => sCon i n pc L st h) (in_Con i n pc st h) hx (fun _ hx => ?_)
  refine key (G := fun L => sIf i n pc L st h) (in_If i n pc st h) hx (fun _ hx => ?_)
  refine key (G := fun L => sCmp i n pc L st h) (in_Cmp i n pc st h) hx (fun _ hx => ?_)
  refine key (G := fun L => sGo i n pc L st h) (in_Go i n pc st h) hx (fun _ hx => ?_)
  refine key (G := fun L => sRd d i n pc L st h) (in_Rd d i n pc st h) hx (fun _ hx => ?_)
  refine key (G := fun L => sWr d i n pc L st h) (in_Wr d i n pc st h) hx (fun _ hx => ?_)
  refine key (G := fun L => sNat d i n pc L st h) (in_Nat d i n pc st h) hx (fun _ hx => ?_)
  clear key
  rcases Option.or_eq_some_iff.mp hx with hx | ⟨-, hx⟩
  · unfold sLd at hx
    split at hx
    · rename_i k t m hg
      split at hx
      · rename_i v hv
        split at hx
        · rename_i hc
          cases hx
          refine ⟨L2, ?_, hs⟩
          have e : sLd i n pc L2 st h = some (pc + n, L2, v :: st, h) := by
            unfold sLd
            rw [hg]
            dsimp only
            rw [hs.get hv]
            dsimp only
            rw [if_pos hc]
          rw [e]
          rfl
        · cases hx
      · cases hx
    · cases hx
  · rcases Option.or_eq_some_iff.mp hx with hx | ⟨-, hx⟩
    · have hgs : ∃ q, gSt i = some q := by
        cases hg : gSt i with
        | none => unfold sSt at hx; rw [hg] at hx; cases hx
        | some q => exact ⟨q, rfl⟩
      obtain ⟨⟨k, t, m⟩, hg⟩ := hgs
      have hgl : gLd i = none := gLd_St (by rw [hg]; rfl)
      have e0 : sLd i n pc L2 st h = none := by unfold sLd; rw [hgl]
      unfold sSt at hx
      rw [hg] at hx
      cases st with
      | nil => cases hx
      | cons v st =>
        dsimp only at hx
        split at hx
        · rename_i hc
          cases hx
          refine ⟨pstore t L2 k v, ?_, ?_⟩
          · have e : sSt d.2.2.2.1 i n pc L2 (v :: st) h = some (pc + n, pstore t L2 k v, st, h) := by
              unfold sSt
              rw [hg]
              dsimp only
              rw [if_pos hc]
            rw [e0, e]
            rfl
          · show psub (pstore t L1 k v) (pstore t L2 k v)
            unfold pstore
            split
            · exact psub_set2 hs k v
            · exact psub_set1 hs k v
        · cases hx
    · obtain ⟨L, e, e2, e3, e4⟩ := inc_weak hs hx
      refine ⟨L, ?_, e2⟩
      have e5 : sLd i n pc L2 st h = none := by unfold sLd; rw [e3]
      have e6 : sSt d.2.2.2.1 i n pc L2 st h = none := by unfold sSt; rw [e4]
      rw [e5, e6, e]
      rfl
theorem prun_weak : ∀ (f : Nat) (d : PMd) (pc : Nat) (L1 L2 : PL) (st : List PV) (h : PH) (x : Option PV × PH), psub L1 L2 → prun f d pc L1 st h = some x → prun f d pc L2 st h = some x := by
  intro f
  induction f with
  | zero => intro d pc L1 L2 st h x _ hx; cases hx
  | succ f ih =>
    intro d pc L1 L2 st h x hs hx
    have hx : pbody (prun f) d pc L1 st h = some x := hx
    show pbody (prun f) d pc L2 st h = some x
    unfold pbody at hx ⊢
    cases hT : d.2.2.2.2.2.2.2[pc]? with
    | none => unfold pone at hx; rw [hT] at hx; cases hx
    | some o =>
      cases o with
      | none => unfold pone at hx; rw [hT] at hx; cases hx
      | some q =>
        obtain ⟨i, n⟩ := q
        unfold pone at hx ⊢
        rw [hT] at hx ⊢
        dsimp only at hx ⊢
        cases hr : (if n = 1 then gRet d.2.2.2.2.1 i st else none) with
        | some r => rw [hr] at hx; exact hx
        | none =>
          rw [hr] at hx
          dsimp only at hx ⊢
          cases hv : pinv d i n st with
          | some c =>
            rw [hv] at hx
            dsimp only at hx ⊢
            cases hp : PP[c.1]? with
            | none => rw [hp] at hx; cases hx
            | some d' =>
              rw [hp] at hx
              dsimp only at hx ⊢
              cases hc : prun f d' 0 (pargs 0 c.2.1) [] h with
              | none => rw [hc] at hx; cases hx
              | some y =>
                rw [hc] at hx
                exact ih d (pc + 3) L1 L2 _ _ x hs hx
          | none =>
            rw [hv] at hx
            dsimp only at hx ⊢
            cases hn : pnext d i n pc L1 st h with
            | none => rw [hn] at hx; cases hx
            | some y =>
              rw [hn] at hx
              obtain ⟨L, e1, e2⟩ := nx_weak hs hn
              rw [e1]
              exact ih d y.1 y.2.1 L _ _ x e2 hx
theorem RUN_weak {d : PMd} {pc : Nat} {L1 L2 : PL} {st : List PV} {h : PH} {Q : Option PV → PH → Prop} (hs : psub L1 L2) (hr : RUN d pc L1 st h Q) : RUN d pc L2 st h Q := by
  obtain ⟨f, r, h', h1, h2⟩ := hr
  exact ⟨f, r, h', prun_weak f d pc L1 L2 st h _ hs h1, h2⟩
