theorem wdT_good {own : String} {idx : Nat} {y : MethodName} {c : Cond} (k1 : Cond.methodLink own idx y ∈ TB) (k2 : Cond.static y ∈ TB) (k4 : Cond.initialized y.cls ∈ TB) (k5 : c ∈ TB) : GoodIn TB (va_wsS own idx y (wd c)) := by
  intro w h
  unfold va_wsS at h
  rcases List.mem_append.mp h with h | h
  · have h3 : w ∈ TB := by
      simp only [List.mem_cons, List.not_mem_nil, or_false] at h
      rcases h with rfl | rfl | rfl <;> assumption
    exact TB_good w h3
  · exact wd_good k5 w h
section
variable {p : Program} {l : Launch} {e : Env} {R : Room} {s : State} {m : MethodId} {args : Array Value} {below : List Frame} {meth : Method} {c : Code} {H : Heap} {locs : List Loc} {Q : State → Prop} {pc n : Nat} {ls : Array Slot} {dC : Nat → ClassId} {dI : Nat → Nat → Nat} {A : Nat → Prop} {ρ : Nat → Nat} {σ : Nat → Option Nat} {a : Nat → ClassId} {h : PH} {L : PL} {st : List PV} {d : PMd} {i : Instr}
theorem r_Ret {r : Option PV} (C : PCX p R s m args meth c dC dI A σ a d) (hd : decode d.2.2.1 pc = .ok (i, n)) (hn : n = 1) (hg : gRet d.2.2.2.2.1 i st = some r) (hy : PDY s H locs ls dC dI A ρ σ a d L h) : W p l e R s m args below meth c H locs 0 0 (MQ below (PPost dC dI ρ σ a A r h) args s 0 0 A) (F0 m pc ls (st.map (pv ρ σ))) := by
  obtain ⟨hx, hb, hr, hml, hT, hown, hlk, hK, hA, hR, hM⟩ := C
  obtain ⟨hP, hD, hS, hl⟩ := hy
  subst hn
  unfold gRet at hg
  split at hg
  · split at hg
    · rename_i x _ t ht
      split at hg
      · rename_i hnar
        cases hg
        exact W.zret (v := x) hx hb (hr.trans ht) hnar (fun t ht hW => ⟨rfl, ⟨by rw [ht]; exact hP, hD⟩, hS.F ht⟩) hS.2.2 hd hlk
      · cases hg
    · cases hg
  · split at hg
    · rename_i x ht
      cases hg
      exact W.lret (v := x) hx hb (hr.trans ht) (fun t ht hW => ⟨rfl, ⟨by rw [ht]; exact hP, hD⟩, hS.F ht⟩) hS.2.2 hd hlk
    · cases hg
  · split at hg
    · rename_i k ht
      cases hg
      cases hret : d.2.2.2.2.1 with
      | none => rw [hret] at ht; cases ht
      | some ty =>
        rw [hret] at ht
        cases ty with
        | object C0 => exact W.aret (v := .ref (ρ k)) hx hb (hr.trans hret) (Or.inl ⟨C0, rfl⟩) (Or.inr ⟨_, rfl⟩) (fun t ht hW => ⟨rfl, ⟨by rw [ht]; exact hP, hD⟩, hS.F ht⟩) hS.2.2 hd hlk
        | _ => cases ht
    · cases hg
  · split at hg
    · rename_i ht
      cases hg
      exact W.vret hx hb (hr.trans ht) (fun t ht hW => ⟨rfl, ⟨by rw [ht]; exact hP, hD⟩, hS.F ht⟩) hS.2.2 hd hlk
    · cases hg
  · cases hg
theorem c_Inv {m' : Nat} {vs rest : List PV} {d' : PMd} {r1 : Option PV} {h1 : PH} (C : PCX p R s m args meth c dC dI A σ a d) (hd : decode d.2.2.1 pc = .ok (i, n)) (hv : pinv d i n st = some (m', vs, rest)) (hd' : PP[m']? = some d') (hM1 : PMet l dC dI ρ σ a d' vs h r1 h1) (hy : PDY s H locs ls dC dI A ρ σ a d L h)
    (kk : ∀ (H1 : Heap) (locs1 : List Loc), PDY s H1 locs1 ls dC dI A ρ σ a d L h1 → W p l e R s m args below meth c H1 locs1 0 0 Q (F0 m (pc + 3) ls ((ppush r1 rest).map (pv ρ σ)))) : W p l e R s m args below meth c H locs 0 0 Q (F0 m pc ls (st.map (pv ρ σ))) := by
  obtain ⟨hx, hb, hr, hml, hT, hown, hlk, hK, hA, hR, hM⟩ := C
  obtain ⟨hP, hD, hS, hl⟩ := hy
  have hF : ∀ q, va_A (toW ρ a h) H.size q → A q := fun q hq => by
    rcases hq with ⟨k, e, he⟩ | hq
    · exact hD.2 k _ he
    · exact hA q (Nat.le_trans hS.1 hq)
  have hM2 : AMB σ (va_A (toW ρ a h) H.size) s H := (hM.kept (fun q h1 h2 => hS.2.1 q h1 h2)).narrow hF
  have hat : ∀ U : State, U.heap = H → s.WarmedH U.vm → PPre dC dI ρ σ a vs h H.size (vs.map (pv ρ σ)).toArray U := fun U hU hW => ⟨rfl, by rw [hU], by rw [hU]; exact hP, va_K.moved hW.alike hK, hD.weaken (fun _ _ _ _ => trivial), by rw [hU]; exact hM2.warm hW⟩
  have kk2 : ∀ (H1 : Heap) (locs1 : List Loc), va_P (dC, dI) vwCl (toW ρ a h1) H1 → va_D A (toW ρ a h1) → va_S A s.heap H1 locs1 → W p l e R s m args below meth c H1 locs1 0 0 Q (F0 m (pc + 3) ls ((r1.map (pv ρ σ)).toList ++ rest.map (pv ρ σ))) := fun H1 locs1 q1 q2 q3 => by
    have := kk H1 locs1 ⟨q1, q2, q3, hl⟩
    cases r1 <;> exact this
  obtain ⟨-, hpn, hcn, hcode⟩ := pp_ok hd'
  unfold pinv at hv
  split at hv
  · rename_i idx vt hi
    split at hv
    · rename_i t mm aN hm
      split at hv
      · rename_i d'' hd''
        split at hv
        · rename_i hroom
          obtain ⟨hfr, hlo, hlen⟩ := hroom
          obtain ⟨rr, hc⟩ := mtab_ok hm
          have hAs : ((st.take aN).reverse.map (pv ρ σ)).length = aN := by rw [List.length_map, List.length_reverse, List.length_take]; omega
          have hst : st.map (pv ρ σ) = ((st.take aN).reverse.map (pv ρ σ)).reverse ++ (st.drop aN).map (pv ρ σ) := by
            rw [List.map_reverse, List.reverse_reverse, ← List.map_append, List.take_append_drop]
          split at hv
          · rename_i hvt
            obtain ⟨rfl, rfl⟩ := hvt
            split at hv
            · rename_i v rest' hdrop
              split at hv
              · rename_i hcond
                obtain ⟨hcls, hsum, hargs⟩ := hcond
                cases hv
                cases hd''.symm.trans hd'
                have hi2 : i = .invokevirtual idx := by
                  unfold gInv at hi
                  split at hi <;> cases hi
                  rfl
                subst hi2
                unfold mchk at hc
                rw [if_pos (show (0 : Nat) < 3 by decide)] at hc
                simp only [hd', Bool.and_eq_true, decide_eq_true_eq] at hc
                obtain ⟨⟨⟨⟨hpar, hn1⟩, hn2⟩, hini⟩, hw⟩ := hc
                rw [if_pos trivial] at hw
                simp only [Bool.and_eq_true] at hw
                obtain ⟨⟨hw1, hw2⟩, hw3⟩ := hw
                have hw3 : Cond.selects d'.2.1.cls d'.2.1 d'.2.1 ∈ TB := by
                  split at hw3
                  · exact tis_TB hw3
                  · exact tin_TB hw3
                have hrecv : ∃ q : Nat, pv ρ σ v = .ref q ∧ ∃ cell : Cell, H[q]? = some cell ∧ cell.vm.isStatics = false ∧ s.vm.findClass d'.2.1.cls = some cell.cls := by
                  rw [hcn]
                  rcases v with v | v | v | v
                  · cases hcls
                  · cases hcls
                  · refine ⟨ρ v, rfl, ?_⟩
                    have hcls : (match SH[v]? with
                      | some (.inr (.inr (ci, _))) => some ci
                      | _ => none) = some d'.1 := hcls
                    split at hcls
                    · rename_i ci fs hsh
                      cases hcls
                      obtain ⟨q, hq, -⟩ := hP v _ (toW_at hsh)
                      have hq : vwCl[d'.1]? = some q := hq
                      have h9 := va_recv hK hP hq (toW_at hsh)
                      have hcnq : cn d'.1 = q.1 := by unfold cn; rw [hq]
                      rw [hcnq]
                      exact h9
                    · cases hcls
                  · have hcls : (if 1 ≤ v ∧ v ≤ pStrs.length then some 12 else none) = some d'.1 := hcls
                    split at hcls
                    · rename_i hk
                      have h12 : d'.1 = 12 := (Option.some.inj hcls).symm
                      obtain ⟨q, v0, e1, e2, q1, -⟩ := hM.2.2.2.1 (v - 1) (by omega)
                      rw [show v - 1 + 1 = v by omega] at e1
                      refine ⟨q, by show va_rf (σ v) = _; rw [e1]; rfl, ?_⟩
                      obtain ⟨cell, z1, z2, z3, z4⟩ := q1.kept (fun q h1 h2 => hS.2.1 q h1 h2)
                      rw [h12]
                      exact ⟨cell, z1, z2, z3⟩
                    · cases hcls
                obtain ⟨q, hq, hcell⟩ := hrecv
                subst hR
                rw [hst, hdrop]
                show W p l e _ s m args below meth c H locs 0 0 Q (F0 m pc ls (((st.take aN).reverse.map (pv ρ σ)).reverse ++ pv ρ σ v :: rest.map (pv ρ σ)))
                have hat : ∀ U : State, U.heap = H → s.WarmedH U.vm → PPre dC dI ρ σ a (v :: (st.take aN).reverse) h H.size (Value.ref q :: (st.take aN).reverse.map (pv ρ σ)).toArray U := by
                  rw [← hq]; exact hat
                rw [hq]
                exact call_go (va_runV (As := (st.take aN).reverse.map (pv ρ σ)) (rest := rest.map (pv ρ σ)) ⟨hx, hb, hml, hown, hT⟩ (hM1 H.size) (cwV aN hT (wdV_good (tin_TB hw1) (tin_TB hw2) hw3 (tin_TB hini) hcode) rfl rfl rfl ⟨rfl, hn1, hn2, hpar⟩ ⟨hfr, hlo⟩) ⟨PPre_blind _ _ _ _ _ _ _ _, hcell, hat⟩ rfl hAs hl.1 rfl (lv_room (by rw [pcats]; exact hsum)) hd ⟨Nat.zero_le _, Nat.zero_le _⟩) hS hF kk2
              · cases hv
            · cases hv
          · split at hv
            · rename_i hvt
              obtain ⟨rfl, ht⟩ := hvt
              split at hv
              · rename_i hcond
                obtain ⟨hsum, hargs⟩ := hcond
                cases hv
                cases hd''.symm.trans hd'
                have hi2 : i = .invokestatic idx := by
                  unfold gInv at hi
                  split at hi <;> cases hi
                  rfl
                subst hi2
                unfold mchk at hc
                rw [if_pos (by show t < 3; omega)] at hc
                simp only [hd', Bool.and_eq_true, decide_eq_true_eq] at hc
                obtain ⟨⟨⟨⟨hpar, hn1⟩, hn2⟩, hini⟩, hw⟩ := hc
                rw [if_neg (by omega)] at hw
                subst hR
                rw [hst]
                rcases ht with rfl | rfl
                · rw [if_pos rfl] at hw
                  simp only [Bool.and_eq_true] at hw
                  obtain ⟨hw1, hw2⟩ := hw
                  exact call_go (va_runS (As := (st.take aN).reverse.map (pv ρ σ)) (rest := (st.drop aN).map (pv ρ σ)) ⟨hx, hb, hml, hown, hT⟩ (hM1 H.size) (va_cwS aN hT (wdT_good (tin_TB hw1) (tin_TB hw2) (tin_TB hini) hcode) rfl rfl rfl ⟨hn1, hn2, hpar⟩ ⟨hfr, hlo⟩) ⟨PPre_blind _ _ _ _ _ _ _ _, hat⟩ rfl hAs hl.1 rfl (lv_room (by rw [pcats]; exact hsum)) hd ⟨Nat.zero_le _, Nat.zero_le _⟩) hS hF kk2
                · rw [if_neg (by decide)] at hw
                  simp only [Bool.and_eq_true, decide_eq_true_eq] at hw
                  obtain ⟨hw1, hw2⟩ := hw
                  exact call_go (va_runSN (As := (st.take aN).reverse.map (pv ρ σ)) (rest := (st.drop aN).map (pv ρ σ)) ⟨hx, hb, hml, hown, hT⟩ (hM1 H.size) ⟨va_cnB aN hT (wd_good hcode) rfl rfl rfl (hM.1 _ hw2) (hT _ (tin_TB hini)) ⟨hn1, hn2, hpar⟩ ⟨hfr, hlo⟩, hT _ (tin_TB hw1), trivial⟩ ⟨PPre_blind _ _ _ _ _ _ _ _, hat⟩ rfl hAs hl.1 rfl (lv_room (by rw [pcats]; exact hsum)) hd ⟨Nat.zero_le _, Nat.zero_le _⟩) hS hF kk2
              · cases hv
            · cases hv
        · cases hv
      · cases hv
    · cases hv
  · cases hv
end
theorem pinv_len {d : PMd} {i : Instr} {n : Nat} {st : List PV} {m : Nat} {vs rest : List PV} {d' : PMd} (hv : pinv d i n st = some (m, vs, rest)) (hd' : PP[m]? = some d') : (vs.map pc2).sum ≤ d'.2.2.2.1 := by
  unfold pinv at hv
  split at hv
  · split at hv
    · split at hv
      · rename_i d'' hd''
        split at hv
        · split at hv
          · split at hv
            · rename_i v rest' hdrop
              split at hv
              · rename_i hcond
                cases hv
                cases hd''.symm.trans hd'
                obtain ⟨hcls, hsum, hargs⟩ := hcond
                rw [List.map_cons, List.sum_cons, List.map_reverse, List.sum_reverse]
                rcases v with v | v | v | v
                · cases hcls
                · cases hcls
                · exact hargs
                · exact hargs
              · cases hv
            · cases hv
          · split at hv
            · split at hv
              · rename_i hcond
                cases hv
                cases hd''.symm.trans hd'
                rw [List.map_reverse, List.sum_reverse]
                exact hcond.2
              · cases hv
            · cases hv
        · cases hv
      · cases hv
    · cases hv
  · cases hv
/-- the plain machine says true -/
theorem sim {l : Launch} {dC : Nat → ClassId} {dI : Nat → Nat → Nat} {ρ : Nat → Nat} {σ : Nat → Option Nat} {a : Nat → ClassId} : ∀ (f k : Nat) (d : PMd) (pc : Nat) (L : PL) (st : List PV) (h : PH) (r : Option PV) (h' : PH), PP[k]? = some d → prun f d pc L st h = some (r, h') →
    ∀ (p : Program) (e : Env) (R : Room) (s : State) (m : MethodId) (args : Array Value) (below : List Frame) (meth : Method) (c : Code) (H : Heap) (locs : List Loc) (A : Nat → Prop) (ls : Array Slot), PCX p R s m args meth c dC dI A σ a d → PDY s H locs ls dC dI A ρ σ a d L h →
      W p l e R s m args below meth c H locs 0 0 (MQ below (PPost dC dI ρ σ a A r h') args s 0 0 A) (F0 m pc ls (st.map (pv ρ σ))) := by
  intro f
  induction f with
  | zero => intro k d pc L st h r h' hk hr; cases hr
  | succ f ih =>
    intro k d pc L st h r h' hk hr p e R s m args below meth c H locs A ls C hy
    have hr : pbody (prun f) d pc L st h = some (r, h') := hr
    unfold pbody at hr
    split at hr
    · rename_i x ho
      unfold pone at ho
      split at ho
      · rename_i i n hi
        have hd := tchk_at (pp_ok hk).1 hi
        split at ho
        · cases ho
        · split at ho
          · cases ho
          · split at ho
            · rename_i x' hx
              cases ho
              exact s_next C hd hx hy (fun H1 locs1 ls1 hy1 => ih k d x.1 x.2.1 x.2.2.1 x.2.2.2 r h' hk hr p e R s m args below meth c H1 locs1 A ls1 C hy1)
            · cases ho
      · cases ho
    · rename_i q ho
      unfold pone at ho
      split at ho
      · rename_i i n hi
        have hd := tchk_at (pp_ok hk).1 hi
        split at ho
        · cases ho
        · split at ho
          · rename_i q' hv
            cases ho
            split at hr
            · rename_i d' hd'
              split at hr
              · rename_i y hrun
                obtain ⟨m', vs, rest⟩ := q
                obtain ⟨r1, h1⟩ := y
                refine c_Inv C hd hv hd' (pm_of hd' (pinv_len hv hd') (fun p e s m below meth c A ls C hy => ih m' d' 0 _ [] h r1 h1 hd' hrun p e _ s m _ below meth c _ [] A ls C hy)) hy (fun H1 locs1 hy1 => ?_)
                exact ih k d (pc + 3) L (ppush r1 rest) h1 r h' hk hr p e R s m args below meth c H1 locs1 A ls C hy1
              · cases hr
            · cases hr
          · split at ho <;> cases ho
      · cases ho
    · rename_i r0 ho
      cases hr
      unfold pone at ho
      split at ho
      · rename_i i n hi
        have hd := tchk_at (pp_ok hk).1 hi
        split at ho
        · rename_i r1 hg
          cases ho
          split at hg
          · rename_i hn
            exact r_Ret C hd hn hg hy
          · cases hg
        · split at ho
          · cases ho
          · split at ho <;> cases ho
      · cases ho
    · cases hr
/-- a run from the start is a contract -/
theorem prun_met {l : Launch} {dC : Nat → ClassId} {dI : Nat → Nat → Nat} {ρ : Nat → Nat} {σ : Nat → Option Nat} {a : Nat → ClassId} {f k : Nat} {d : PMd} (hk : PP[k]? = some d) {vs : List PV} (hlen : (vs.map pc2).sum ≤ d.2.2.2.1) {h h' : PH} {r : Option PV} (hr : prun f d 0 (pargs 0 vs) [] h = some (r, h')) : PMet l dC dI ρ σ a d vs h r h' :=
  pm_of hk hlen (fun p e s m below meth c A ls C hy => sim f k d 0 _ [] h r h' hk hr p e _ s m _ below meth c _ [] A ls C hy)
