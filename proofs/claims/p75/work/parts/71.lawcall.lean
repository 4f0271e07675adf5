/-! a call out of the law -/
theorem call_goN {p : Program} {l : Launch} {e : Env} {R : Room} {s : State} {m : MethodId} {args : Array Value} {below : List Frame} {meth : Method} {c : Code} {H : Heap} {locs : List Loc} {cells slots : Nat} {Q : State → Prop} {pc : Nat} {ls : Array Slot} {dC : Nat → ClassId} {dI : Nat → Nat → Nat} {A A1 : Nat → Prop} {ρ : Nat → Nat} {σ : Nat → Option Nat} {a : Nat → ClassId} {st0 rest : List Value} {av : Array Value} {r : Option PV} {h' : PH}
    (hr : va_Run p l e R s m args below meth c H locs cells slots 0 0 (F0 m pc ls st0) rest (PPost dC dI ρ σ a A1 r h' av) A1) (hS : va_S A s.heap H locs) (hA1 : ∀ q, A1 q → A q)
    (kk : ∀ (H1 : Heap) (locs1 : List Loc), va_P (dC, dI) vwCl (toW ρ a h') H1 → va_D A (toW ρ a h') → va_S A s.heap H1 locs1 → W p l e R s m args below meth c H1 locs1 cells slots Q (F0 m (pc + 3) ls ((r.map (pv ρ σ)).toList ++ rest))) : W p l e R s m args below meth c H locs cells slots Q (F0 m pc ls st0) := by
  intro T hT X
  obtain ⟨v, st₀, t, T', L, h0, X', hL, e1, e2, ⟨hv, ⟨hp, hd⟩, hz, hk⟩, st⟩ := hr T hT X
  cases hv
  rw [h0] at hz hk
  obtain ⟨t2, a1, b1⟩ := kk T'.heap (locs ++ L) (by rw [e1]; exact hp) (hd.weaken (fun _ _ _ z => hA1 _ z))
    ⟨Nat.le_trans hS.1 (by rw [e1]; exact hz), fun q h1 h2 => by rw [e1, hk q (Nat.lt_of_lt_of_le h1 hS.1) (fun z => h2 (hA1 q z))]; exact hS.2.1 q h1 h2, fun q hq => by
      rcases List.mem_append.mp hq with h | h
      · exact hS.2.2 q h
      · exact hA1 _ (hL q h)⟩ T' rfl X'
  exact ⟨t2, st t2 a1, b1⟩
theorem c_L {p : Program} {l : Launch} {e : Env} {R : Room} {s : State} {m : MethodId} {args : Array Value} {below : List Frame} {meth : Method} {c : Code} {H : Heap} {locs : List Loc} {cells slots : Nat} {Q : State → Prop} {pc nL idx n : Nat} {cc : ByteArray} {own : String} {ls : Array Slot} {dC : Nat → ClassId} {dI : Nat → Nat → Nat} {A : Nat → Prop} {ρ : Nat → Nat} {σ : Nat → Option Nat} {a : Nat → ClassId} {h h1 : PH} {k v : Nat} {d' : PMd} {fs : List PF} {As : List PV} {rest st : List Value} {r1 : Option PV}
    (S : CallFix p m c cc nL s args TB own) (hK : va_K (dC, dI) vwCl (tysP a) s) (hM : AMB σ A s s.heap) (hA : ∀ q : Nat, s.heap.size ≤ q → A q) (hP : va_P (dC, dI) vwCl (toW ρ a h) H) (hD : va_D A (toW ρ a h)) (hS : va_S A s.heap H locs)
    (hd' : PP[k]? = some d') (hM1 : PMet l dC dI ρ σ a d' (.inr (.inr (.inl v)) :: As) h r1 h1) (hsh : SH[v]? = some (.inr (.inr (d'.1, fs))))
    (k1 : Cond.methodLink own idx d'.2.1 ∈ TB) (k2 : Cond.instanceMethod d'.2.1 ∈ TB) (k3 : Cond.selects d'.2.1.cls d'.2.1 d'.2.1 ∈ TB) (k4 : Cond.initialized d'.2.1.cls ∈ TB) (hy : d'.2.1.cls ≠ "java/lang/invoke/MethodHandle" ∧ d'.2.1.cls ≠ "java/lang/invoke/VarHandle" ∧ (parseMethodDescriptor d'.2.1.desc).map (fun d => d.parameters.length) = some n) (hn : As.length = n) (hR : (prm d').frames + 1 ≤ R.frames ∧ 8 + (d'.2.2.2.1 + 11) + (prm d').locals ≤ R.locals) (hsz : ls.size = nL) (hroom : (rest.map fun v => v.category).sum ≤ 8) (hst : st = (As.map (pv ρ σ)).reverse ++ .ref (ρ v) :: rest) (hdg : decode cc pc = .ok (.invokevirtual idx, 3)) (hf : cells ≤ R.cells ∧ slots ≤ R.slots)
    (kk : ∀ (H1 : Heap) (locs1 : List Loc), va_P (dC, dI) vwCl (toW ρ a h1) H1 → va_D A (toW ρ a h1) → va_S A s.heap H1 locs1 → W p l e R s m args below meth c H1 locs1 cells slots Q (F0 m (pc + 3) ls ((r1.map (pv ρ σ)).toList ++ rest))) : W p l e R s m args below meth c H locs cells slots Q (F0 m pc ls st) := by
  subst hst
  have hF : ∀ q, va_A (toW ρ a h) H.size q → A q := fun q hq => by
    rcases hq with ⟨k, e, he⟩ | hq
    · exact hD.2 k _ he
    · exact hA q (Nat.le_trans hS.1 hq)
  have hM2 : AMB σ (va_A (toW ρ a h) H.size) s H := (hM.kept (fun q h1 h2 => hS.2.1 q h1 h2)).narrow hF
  have hat : ∀ U : State, U.heap = H → s.WarmedH U.vm → PPre dC dI ρ σ a (.inr (.inr (.inl v)) :: As) h H.size (Value.ref (ρ v) :: As.map (pv ρ σ)).toArray U := fun U hU hW => ⟨rfl, by rw [hU], by rw [hU]; exact hP, va_K.moved hW.alike hK, hD.weaken (fun _ _ _ _ => trivial), by rw [hU]; exact hM2.warm hW⟩
  obtain ⟨-, hpn, hcn, hcode⟩ := pp_ok hd'
  have hcell : ∃ cell : Cell, H[ρ v]? = some cell ∧ cell.vm.isStatics = false ∧ s.vm.findClass d'.2.1.cls = some cell.cls := by
    obtain ⟨q, hq, -⟩ := hP v _ (toW_at hsh)
    have hq : vwCl[d'.1]? = some q := hq
    have h9 := va_recv hK hP hq (toW_at hsh)
    have hcnq : cn d'.1 = q.1 := by unfold cn; rw [hq]
    rw [hcn, hcnq]
    exact h9
  have hAs : (As.map (pv ρ σ)).length = n := by rw [List.length_map]; exact hn
  exact call_goN (va_runV (As := As.map (pv ρ σ)) (rest := rest) S (hM1 H.size) (cwV n S.2.2.2.2 (wdV_good k1 k2 k3 k4 hcode) rfl rfl rfl ⟨rfl, hy.1, hy.2.1, hy.2.2⟩ hR) ⟨PPre_blind _ _ _ _ _ _ _ _, hcell, hat⟩ rfl hAs hsz rfl (lv_room hroom) hdg hf) hS hF kk
