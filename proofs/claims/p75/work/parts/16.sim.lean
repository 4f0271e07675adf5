/-! The plain machine's run of a method is the method's contract. -/
theorem pcl {x : Int32} (h : 0 ≤ x.toInt) : (x.toNatClampNeg : Int) = x.toInt := by
  show ((x.toInt.toNat : Nat) : Int) = x.toInt
  omega
section
variable {p : Program} {l : Launch} {e : Env} {R : Room} {s : State} {m : MethodId} {args : Array Value} {below : List Frame} {meth : Method} {c : Code} {H : Heap} {locs : List Loc} {Q : State → Prop} {pc n : Nat} {ls : Array Slot} {dC : Nat → ClassId} {dI : Nat → Nat → Nat} {A : Nat → Prop} {ρ : Nat → Nat} {σ : Nat → Option Nat} {a : Nat → ClassId} {h : PH} {L : PL} {st : List PV} {d : PMd} {i : Instr} {x : PN}
theorem s_Nat (C : PCX p R s m args meth c dC dI A σ a d) (hd : decode d.2.2.1 pc = .ok (i, n)) (hs : sNat d i n pc L st h = some x) (hy : PDY s H locs ls dC dI A ρ σ a d L h) (kk : NXT p l e R s m args below meth c Q dC dI A ρ σ a d x) : W p l e R s m args below meth c H locs 0 0 Q (F0 m pc ls (st.map (pv ρ σ))) := by
  obtain ⟨hx, hb, hr, hml, hT, hown, hlk, hK, hA, hR, hM⟩ := C
  have hy' := hy
  obtain ⟨hP, hD, hS, hl⟩ := hy'
  unfold sNat at hs
  split at hs
  · rename_i idx vt hi
    split at hs
    · rename_i t b q hm
      split at hs
      · rename_i htv
        obtain ⟨rfl, rfl⟩ := htv
        split at hs
        · rename_i st' h' hg
          split at hs
          · rename_i hroom
            obtain ⟨hf, hw, hsum⟩ := hroom
            cases hs
            have hi2 : i = .invokestatic idx := by
              unfold gInv at hi
              split at hi <;> cases hi
              rfl
            subst hi2
            obtain ⟨r, hc⟩ := mtab_ok hm
            have hlink : Cond.methodLink (cn d.1) idx (bLink b) ∈ TB := tin_TB (pos := r.1) hc
            have hlink := hT _ hlink
            have hml' : c.maxLocals = ls.size := hml.trans hl.1.symm
            subst hR
            unfold gNat at hg
            split at hg
            · rename_i h6
              subst h6
              unfold gCopy at hg
              split at hg
              · rename_i n0 dp k sp q0 st0
                split at hg
                · rename_i hpos
                  obtain ⟨h1, h2, h3⟩ := hpos
                  have g1 : ¬ sp < 0 := fun z => absurd (Int32.lt_iff_toInt_lt.mp z) (by rw [show (0 : Int32).toInt = 0 from rfl]; omega)
                  have g2 : ¬ dp < 0 := fun z => absurd (Int32.lt_iff_toInt_lt.mp z) (by rw [show (0 : Int32).toInt = 0 from rfl]; omega)
                  have g3 : ¬ n0 < 0 := fun z => absurd (Int32.lt_iff_toInt_lt.mp z) (by rw [show (0 : Int32).toInt = 0 from rfl]; omega)
                  have c1 : (sp.toNatClampNeg : Int) = sp.toInt := pcl h1
                  have c2 : (dp.toNatClampNeg : Int) = dp.toInt := pcl h2
                  have c3 : (n0.toNatClampNeg : Int) = n0.toInt := pcl h3
                  split at hg
                  · rename_i m0 m1 hs0 hs1
                    split at hg
                    · rename_i hle
                      cases hg
                      have hset := toW_rI (ρ := ρ) (a := a) (h := h) hs1 (va_cpy (h.1 q0) (h.1 k) sp.toNatClampNeg dp.toNatClampNeg n0.toNatClampNeg) (e := .inl (a 0, m1, .inl (va_cpy (h.1 q0) (h.1 k) sp.toNatClampNeg dp.toNatClampNeg n0.toNatClampNeg))) (by show Sum.inl (a 0, m1, Sum.inl (rI h.1 k _ k)) = _; rw [rI_self])
                      exact va_copyi (R := prm d) hx hb hml' hown hlink (hT _ jw_ac_n) (hT _ jw_ac_s) (hT _ jw_sys) hK hP hD hS q0 k 0 0 (toW_at hs0) (toW_at hs1) rfl rfl rfl g1 g2 g3 (by omega) (by omega) (fun _ _ => rfl) hf (by rw [pcats]; exact Nat.le_trans (Nat.add_le_add_right hsum 18) hw) hd (fun H1 locs1 hP1 hD1 hS1 => kk H1 locs1 ls ⟨by rw [← hset]; exact hP1, by rw [← hset]; exact hD1, hS1, hl⟩)
                    · cases hg
                  · rename_i m0 m1 hs0 hs1
                    split at hg
                    · rename_i hle
                      cases hg
                      have hset := toW_rL (ρ := ρ) (a := a) (h := h) hs1 (va_cpy (h.2 q0) (h.2 k) sp.toNatClampNeg dp.toNatClampNeg n0.toNatClampNeg) (e := .inl (a 3, m1, .inr (.inl (va_cpy (h.2 q0) (h.2 k) sp.toNatClampNeg dp.toNatClampNeg n0.toNatClampNeg)))) (by show Sum.inl (a 3, m1, Sum.inr (Sum.inl (rL h.2 k _ k))) = _; rw [rL_self])
                      exact va_copyl (R := prm d) hx hb hml' hown hlink (hT _ jw_ac_n) (hT _ jw_ac_s) (hT _ jw_sys) hK hP hD hS q0 k 3 3 (toW_at hs0) (toW_at hs1) rfl rfl rfl g1 g2 g3 (by omega) (by omega) (fun _ _ => rfl) hf (by rw [pcats]; exact Nat.le_trans (Nat.add_le_add_right hsum 18) hw) hd (fun H1 locs1 hP1 hD1 hS1 => kk H1 locs1 ls ⟨by rw [← hset]; exact hP1, by rw [← hset]; exact hD1, hS1, hl⟩)
                    · cases hg
                  · cases hg
                · cases hg
              · cases hg
            · unfold gMath at hg
              split at hg
              · cases hg
                have kk := kk H locs ls hy
                exact va_mmax (R := prm d) hx hb hml' hown hlink (hT _ jw_max_s) (hT _ jw_math) (hT _ jw_max_c) hf (by rw [pcats]; exact Nat.le_trans (Nat.add_le_add_right hsum 13) hw) (Nat.zero_le _) (Nat.zero_le _) hd kk
              · cases hg
                have kk := kk H locs ls hy
                exact va_mmin (R := prm d) hx hb hml' hown hlink (hT _ jw_min_s) (hT _ jw_math) (hT _ jw_min_c) hf (by rw [pcats]; exact Nat.le_trans (Nat.add_le_add_right hsum 13) hw) (Nat.zero_le _) (Nat.zero_le _) hd kk
              · cases hg
                have kk := kk H locs ls hy
                exact va_mabs (R := prm d) hx hb hml' hown hlink (hT _ jw_abs_s) (hT _ jw_math) (hT _ jw_abs_c) hf (by rw [pcats]; exact Nat.le_trans (Nat.add_le_add_right hsum 13) hw) (Nat.zero_le _) (Nat.zero_le _) hd kk
              · cases hg
                have kk := kk H locs ls hy
                exact va_mabs_long (R := prm d) hx hb hml' hown hlink (hT _ jw_absl_s) (hT _ jw_math) (hT _ jw_absl_c) hf (by rw [pcats]; exact Nat.le_trans (Nat.add_le_add_right hsum 13) hw) (Nat.zero_le _) (Nat.zero_le _) hd kk
              · cases hg
          · cases hs
        · cases hs
      · cases hs
    · cases hs
  · cases hs
theorem s_next (C : PCX p R s m args meth c dC dI A σ a d) (hd : decode d.2.2.1 pc = .ok (i, n)) (hs : pnext d i n pc L st h = some x) (hy : PDY s H locs ls dC dI A ρ σ a d L h) (kk : NXT p l e R s m args below meth c Q dC dI A ρ σ a d x) : W p l e R s m args below meth c H locs 0 0 Q (F0 m pc ls (st.map (pv ρ σ))) := by
  unfold pnext at hs
  rcases Option.or_eq_some_iff.mp hs with h1 | ⟨-, hs⟩
  · exact s_Bin C hd h1 hy kk
  rcases Option.or_eq_some_iff.mp hs with h1 | ⟨-, hs⟩
  · exact s_BinL C hd h1 hy kk
  rcases Option.or_eq_some_iff.mp hs with h1 | ⟨-, hs⟩
  · exact s_ShL C hd h1 hy kk
  rcases Option.or_eq_some_iff.mp hs with h1 | ⟨-, hs⟩
  · exact s_Un C hd h1 hy kk
  rcases Option.or_eq_some_iff.mp hs with h1 | ⟨-, hs⟩
  · exact s_Stk C hd h1 hy kk
  rcases Option.or_eq_some_iff.mp hs with h1 | ⟨-, hs⟩
  · exact s_Con C hd h1 hy kk
  rcases Option.or_eq_some_iff.mp hs with h1 | ⟨-, hs⟩
  · exact s_If C hd h1 hy kk
  rcases Option.or_eq_some_iff.mp hs with h1 | ⟨-, hs⟩
  · exact s_Cmp C hd h1 hy kk
  rcases Option.or_eq_some_iff.mp hs with h1 | ⟨-, hs⟩
  · exact s_Go C hd h1 hy kk
  rcases Option.or_eq_some_iff.mp hs with h1 | ⟨-, hs⟩
  · exact s_Rd C hd h1 hy kk
  rcases Option.or_eq_some_iff.mp hs with h1 | ⟨-, hs⟩
  · exact s_Wr C hd h1 hy kk
  rcases Option.or_eq_some_iff.mp hs with h1 | ⟨-, hs⟩
  · exact s_Nat C hd h1 hy kk
  rcases Option.or_eq_some_iff.mp hs with h1 | ⟨-, hs⟩
  · exact s_Ld C hd h1 hy kk
  rcases Option.or_eq_some_iff.mp hs with h1 | ⟨-, hs⟩
  · exact s_St C hd h1 hy kk
  exact s_Inc C hd hs hy kk
end
/-! contracts -/
def PPre (dC : Nat → ClassId) (dI : Nat → Nat → Nat) (ρ : Nat → Nat) (σ : Nat → Option Nat) (a : Nat → ClassId) (vs : List PV) (h : PH) (sz : Nat) : Array Value → State → Prop :=
  va_Pc (vs.map (pv ρ σ)) (fun U => U.heap.size = sz ∧ va_P (dC, dI) vwCl (toW ρ a h) U.heap ∧ va_K (dC, dI) vwCl (tysP a) U ∧ va_D (fun _ => True) (toW ρ a h) ∧ AMB σ (va_A (toW ρ a h) sz) U U.heap)
def PPost (dC : Nat → ClassId) (dI : Nat → Nat → Nat) (ρ : Nat → Nat) (σ : Nat → Option Nat) (a : Nat → ClassId) (A : Nat → Prop) (r : Option PV) (h : PH) : Array Value → State → Outcome → State → Prop :=
  fun _ st oc t => oc = .returned (r.map (pv ρ σ)) ∧ (va_P (dC, dI) vwCl (toW ρ a h) t.heap ∧ va_D A (toW ρ a h)) ∧ va_F A st t
abbrev pcode (d : PMd) : Cond := Cond.code d.2.1 d.2.2.1 d.2.2.2.1 d.2.2.2.2.1
def PMet (l : Launch) (dC : Nat → ClassId) (dI : Nat → Nat → Nat) (ρ : Nat → Nat) (σ : Nat → Option Nat) (a : Nat → ClassId) (d : PMd) (vs : List PV) (h : PH) (r : Option PV) (h' : PH) : Prop :=
  ∀ sz : Nat, Met l d.2.1 (wd (pcode d)) (prm d) (PPre dC dI ρ σ a vs h sz) (PPost dC dI ρ σ a (va_A (toW ρ a h) sz) r h') 0 0 (va_A (toW ρ a h) sz)
theorem PPre_blind (dC : Nat → ClassId) (dI : Nat → Nat → Nat) (ρ : Nat → Nat) (σ : Nat → Option Nat) (a : Nat → ClassId) (vs : List PV) (h : PH) (sz : Nat) : FrameBlind (PPre dC dI ρ σ a vs h sz) := fun v U g mk q => by
  obtain ⟨q0, q1, qP, qK, qD, qM⟩ := q
  exact ⟨q0, q1, qP, va_K.moved (u := U) (U := U.calling g mk v) (Vm.Alike.refl U.vm) qK, qD, AMB.same (s := U) rfl qM⟩
theorem toW_A {ρ : Nat → Nat} {a : Nat → ClassId} {h h' : PH} {sz q : Nat} (hq : va_A (toW ρ a h) sz q) : va_A (toW ρ a h') sz q := by
  rcases hq with ⟨k, e, he⟩ | hq
  · unfold toW at he
    rw [List.getElem?_mapIdx] at he
    cases hs : SH[k]? with
    | none => rw [hs] at he; cases he
    | some sh =>
      rw [hs] at he
      cases he
      exact Or.inl ⟨k, _, toW_at hs⟩
  · exact Or.inr hq
theorem pm_of {l : Launch} {dC : Nat → ClassId} {dI : Nat → Nat → Nat} {ρ : Nat → Nat} {σ : Nat → Option Nat} {a : Nat → ClassId} {k : Nat} {d : PMd} (hk : PP[k]? = some d) {vs : List PV} (hlen : (vs.map pc2).sum ≤ d.2.2.2.1) {h h' : PH} {r : Option PV}
    (body : ∀ (p : Program) (e : Env) (s : State) (m : MethodId) (below : List Frame) (meth : Method) (c : Code) (A : Nat → Prop) (ls : Array Slot), PCX p (prm d) s m (vs.map (pv ρ σ)).toArray meth c dC dI A σ a d → PDY s s.heap [] ls dC dI A ρ σ a d (pargs 0 vs) h →
      W p l e (prm d) s m (vs.map (pv ρ σ)).toArray below meth c s.heap [] 0 0 (MQ below (PPost dC dI ρ σ a A r h') (vs.map (pv ρ σ)).toArray s 0 0 A) (F0 m 0 ls [])) : PMet l dC dI ρ σ a d vs h r h' := by
  intro sz
  obtain ⟨-, hy, hcn, -⟩ := pp_ok hk
  refine Met.ofW (cc := d.2.2.1) (maxL := d.2.2.2.1) (ret := d.2.2.2.2.1) hy rfl ?_
  intro p e s m args below meth c s₁ B hml hv
  obtain ⟨rfl, hsz, hP, hK, hD0, hM⟩ := hv
  have hts := atoms_spec (ws := wd (pcode d)) B.pre
  subst hsz
  have hl := lv_entry (vs.map (pv ρ σ)) (n := d.2.2.2.1) (by rw [plg_len]; exact hlen)
  rw [lg_entry_eq]
  rw [plv_args] at hl
  refine body p e s m below meth c (va_A (toW ρ a h) s.heap.size) _ ⟨B.exec, B.bytes, B.returns, hml, fun w hw => hts w (List.mem_cons_of_mem _ hw), ?_, B.notSynchronized, hK, fun q hq => Or.inr hq, rfl, hM⟩ ⟨hP, hD0.self, va_S.rf, hl⟩
  rw [← hcn]
  exact findClass_of_methodNamed B.named
theorem call_go {p : Program} {l : Launch} {e : Env} {R : Room} {s : State} {m : MethodId} {args : Array Value} {below : List Frame} {meth : Method} {c : Code} {H : Heap} {locs : List Loc} {Q : State → Prop} {pc : Nat} {ls : Array Slot} {dC : Nat → ClassId} {dI : Nat → Nat → Nat} {A A1 : Nat → Prop} {ρ : Nat → Nat} {σ : Nat → Option Nat} {a : Nat → ClassId} {st0 rest : List Value} {av : Array Value} {r : Option PV} {h' : PH}
    (hr : va_Run p l e R s m args below meth c H locs 0 0 0 0 (F0 m pc ls st0) rest (PPost dC dI ρ σ a A1 r h' av) A1) (hS : va_S A s.heap H locs) (hA1 : ∀ q, A1 q → A q)
    (kk : ∀ (H1 : Heap) (locs1 : List Loc), va_P (dC, dI) vwCl (toW ρ a h') H1 → va_D A (toW ρ a h') → va_S A s.heap H1 locs1 → W p l e R s m args below meth c H1 locs1 0 0 Q (F0 m (pc + 3) ls ((r.map (pv ρ σ)).toList ++ rest))) : W p l e R s m args below meth c H locs 0 0 Q (F0 m pc ls st0) := by
  intro T hT X
  obtain ⟨v, st₀, t, T', L, h0, X', hL, e1, e2, ⟨hv, ⟨hp, hd⟩, hz, hk⟩, st⟩ := hr T hT X
  cases hv
  rw [h0] at hz hk
  obtain ⟨t2, a1, b1⟩ := kk T'.heap (locs ++ L) (by rw [e1]; exact hp) (hd.weaken (fun _ _ _ z => hA1 _ z))
    ⟨Nat.le_trans hS.1 (by rw [e1]; exact hz), fun q h1 h2 => by rw [e1, hk q (Nat.lt_of_lt_of_le h1 hS.1) (fun z => h2 (hA1 q z))]; exact hS.2.1 q h1 h2, fun q hq => by
      rcases List.mem_append.mp hq with h | h
      · exact hS.2.2 q h
      · exact hA1 _ (hL q h)⟩ T' rfl X'
  exact ⟨t2, st t2 a1, b1⟩
