/-! Runs of the plain machine, by their ends. -/
theorem pbody_mono {R1 R2 : PMd → Nat → PL → List PV → PH → Option (Option PV × PH)} (hR : ∀ d pc L st h x, R1 d pc L st h = some x → R2 d pc L st h = some x) {d : PMd} {pc : Nat} {L : PL} {st : List PV} {h : PH} {x : Option PV × PH} (hx : pbody R1 d pc L st h = some x) : pbody R2 d pc L st h = some x := by
  unfold pbody at hx ⊢
  cases ho : pone d pc L st h with
  | none => rw [ho] at hx; cases hx
  | some o =>
    rw [ho] at hx
    rcases o with y | c | r
    · exact hR _ _ _ _ _ _ hx
    · dsimp only at hx ⊢
      cases hp : PP[c.1]? with
      | none => rw [hp] at hx; cases hx
      | some d' =>
        rw [hp] at hx
        dsimp only at hx ⊢
        cases hc : R1 d' 0 (pargs 0 c.2.1) [] h with
        | none => rw [hc] at hx; cases hx
        | some y =>
          rw [hc] at hx
          rw [hR _ _ _ _ _ _ hc]
          exact hR _ _ _ _ _ _ hx
    · exact hx
theorem prun_mono1 : ∀ (f : Nat) (d : PMd) (pc : Nat) (L : PL) (st : List PV) (h : PH) (x : Option PV × PH), prun f d pc L st h = some x → prun (f + 1) d pc L st h = some x := by
  intro f
  induction f with
  | zero => intro d pc L st h x hx; cases hx
  | succ f ih => intro d pc L st h x hx; exact pbody_mono ih hx
theorem prun_mono {f g : Nat} (hfg : f ≤ g) {d : PMd} {pc : Nat} {L : PL} {st : List PV} {h : PH} {x : Option PV × PH} (hx : prun f d pc L st h = some x) : prun g d pc L st h = some x := by
  obtain ⟨k, rfl⟩ := Nat.exists_eq_add_of_le hfg
  induction k with
  | zero => exact hx
  | succ k ih => exact prun_mono1 _ _ _ _ _ _ _ (ih (Nat.le_add_right _ _))
/-- from here the method ends, with Q -/
def RUN (d : PMd) (pc : Nat) (L : PL) (st : List PV) (h : PH) (Q : Option PV → PH → Prop) : Prop := ∃ (f : Nat) (r : Option PV) (h' : PH), prun f d pc L st h = some (r, h') ∧ Q r h'
abbrev CALL (d : PMd) (vs : List PV) (h : PH) (Q : Option PV → PH → Prop) : Prop := RUN d 0 (pargs 0 vs) [] h Q
theorem RUN.mono {d : PMd} {pc : Nat} {L : PL} {st : List PV} {h : PH} {Q Q' : Option PV → PH → Prop} (hr : RUN d pc L st h Q) (hq : ∀ r h', Q r h' → Q' r h') : RUN d pc L st h Q' := by
  obtain ⟨f, r, h', h1, h2⟩ := hr
  exact ⟨f, r, h', h1, hq r h' h2⟩
theorem RUN_on {d : PMd} {pc : Nat} {L : PL} {st : List PV} {h : PH} {Q : Option PV → PH → Prop} {x : PN} (ho : pone d pc L st h = some (.inl x)) (hr : RUN d x.1 x.2.1 x.2.2.1 x.2.2.2 Q) : RUN d pc L st h Q := by
  obtain ⟨f, r, h', h1, h2⟩ := hr
  refine ⟨f + 1, r, h', ?_, h2⟩
  show pbody (prun f) d pc L st h = _
  unfold pbody
  rw [ho]
  exact h1
theorem RUN_end {d : PMd} {pc : Nat} {L : PL} {st : List PV} {h : PH} {Q : Option PV → PH → Prop} {r : Option PV} (ho : pone d pc L st h = some (.inr (.inr r))) (hq : Q r h) : RUN d pc L st h Q := by
  refine ⟨1, r, h, ?_, hq⟩
  show pbody (prun 0) d pc L st h = _
  unfold pbody
  rw [ho]
theorem RUN_call {d : PMd} {pc : Nat} {L : PL} {st : List PV} {h : PH} {Q : Option PV → PH → Prop} {c : Nat × List PV × List PV} {d' : PMd} (ho : pone d pc L st h = some (.inr (.inl c))) (hd : PP[c.1]? = some d') (hc : CALL d' c.2.1 h (fun r h1 => RUN d (pc + 3) L (ppush r c.2.2) h1 Q)) : RUN d pc L st h Q := by
  obtain ⟨f, r, h1, h2, g, r', h', h3, h4⟩ := hc
  refine ⟨f + g + 1, r', h', ?_, h4⟩
  show pbody (prun (f + g)) d pc L st h = _
  unfold pbody
  rw [ho]
  dsimp only
  rw [hd]
  dsimp only
  rw [prun_mono (Nat.le_add_right f g) h2]
  exact prun_mono (Nat.le_add_left g f) h3
/-- a run is a contract -/
theorem CALL_met {l : Launch} {dC : Nat → ClassId} {dI : Nat → Nat → Nat} {ρ : Nat → Nat} {σ : Nat → Option Nat} {a : Nat → ClassId} {k : Nat} {d : PMd} (hk : PP[k]? = some d) {vs : List PV} (hlen : (vs.map pc2).sum ≤ d.2.2.2.1) {h : PH} {Q : Option PV → PH → Prop} (hr : CALL d vs h Q) : ∃ r h', Q r h' ∧ PMet l dC dI ρ σ a d vs h r h' := by
  obtain ⟨f, r, h', h1, h2⟩ := hr
  exact ⟨r, h', h2, prun_met hk hlen h1⟩
