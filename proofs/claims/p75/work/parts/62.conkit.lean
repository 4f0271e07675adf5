/-! constructors: what comes with the start (links between nest mates), cells that are new -/
abbrev nestL : List (String × Nat × MethodName) := [(RX8, 9, yX4_init), (RX4, 11, yX7_init), (RX8, 23, yX1_init), (RX8, 41, yX5_init), (RX8, 48, yX2_init), (RX8, 55, yX6_init), (RX8, 62, yX3_init), (RX8, 69, yX0_init)]
def NW (U : State) : Prop := (∀ q ∈ nestL, va_Nw (.methodLinkNest q.1 q.2.1 q.2.2 RX8) U) ∧ va_AO RX1 U
theorem NW_warm {s U : State} (hW : s.WarmedH U.vm) (h : NW s) : NW U := ⟨fun q hq => va_Nw.warmM hW (h.1 q hq), va_AO.moved hW.alike h.2⟩
theorem NW_call {U : State} {g : JFrame} {mk : MethodId} {a : Array Value} (h : NW U) : NW (U.calling g mk a) := ⟨fun q hq => va_Nw.same (u := U) rfl rfl (h.1 q hq), va_AO.moved (u := U) (Vm.Alike.refl U.vm) h.2⟩
abbrev PRN (dC : Nat → ClassId) (dI : Nat → Nat → Nat) (vs : List Value) (ws : va_W) (sz : Nat) : Array Value → State → Prop := va_Pc vs (fun U => U.heap.size = sz ∧ va_P (dC, dI) vwCl ws U.heap ∧ va_K (dC, dI) vwCl [] U ∧ va_D (fun _ => True) ws ∧ NW U)
theorem PRN_blind (dC : Nat → ClassId) (dI : Nat → Nat → Nat) (vs : List Value) (ws : va_W) (sz : Nat) : FrameBlind (PRN dC dI vs ws sz) := fun a U g mk q => by
  obtain ⟨q0, q1, qP, qK, qD, qN⟩ := q
  exact ⟨q0, q1, qP, va_K.moved (u := U) (U := U.calling g mk a) (Vm.Alike.refl U.vm) qK, qD, NW_call qN⟩
theorem PRN_at {dC : Nat → ClassId} {dI : Nat → Nat → Nat} {vs : List Value} {wc : va_W} {s : State} {H : Heap} {A : Nat → Prop} (hP : va_P (dC, dI) vwCl wc H) (hK : va_K (dC, dI) vwCl [] s) (hD : va_D A wc) (hN : NW s) : ∀ U : State, U.heap = H → s.WarmedH U.vm → PRN dC dI vs wc H.size vs.toArray U := fun U hU hW => ⟨rfl, by rw [hU], by rw [hU]; exact hP, va_K.moved hW.alike hK, hD.weaken (fun _ _ _ _ => trivial), NW_warm hW hN⟩
abbrev GA : Type := (Nat → Nat) × (Nat → ClassId)
abbrev QC (dC : Nat → ClassId) (dI : Nat → Nat → Nat) (A : Nat → Prop) (post : GA → Prop) (t2 : GA → List (ClassId × FieldType)) (w2 : GA → va_W) : Array Value → State → Outcome → State → Prop := va_Qv (fun (u : GA) => post u) (fun (u : GA) (t : State) => va_P (dC, dI) vwCl (w2 u) t.heap ∧ va_K (dC, dI) vwCl (t2 u) t ∧ va_D A (w2 u)) A
abbrev MC (l : Launch) (dC : Nat → ClassId) (dI : Nat → Nat → Nat) (y : MethodName) (c : Cond) (rm : Room) (h0 : Nat) (ws : va_W) (post : GA → Prop) (t2 : GA → List (ClassId × FieldType)) (w2 : GA → va_W) (mc ms : Nat) : Prop := ∀ sz : Nat, Met l y (wd c) rm (PRN dC dI [.ref h0] ws sz) (QC dC dI (va_A ws sz) post t2 w2) mc ms (va_A ws sz)
theorem mc_of {l : Launch} {dC : Nat → ClassId} {dI : Nat → Nat → Nat} {y : MethodName} {cc : ByteArray} {maxL : Nat} {ret : Option FieldType} {rm : Room} {vs : List Value} {ws : va_W} {lv : List (Nat × Value)} {mc ms : Nat} {Qc : (Nat → Prop) → Array Value → State → Outcome → State → Prop}
    (hy : plainName y.cls = true) (hlen : (lg_sl vs).length ≤ maxL) (hlv : lv_args 0 vs = lv)
    (body : ∀ (p : Program) (e : Env) (s : State) (m : MethodId) (below : List Frame) (meth : Method) (c : Code) (A : Nat → Prop) (ls : Array Slot), p.tables.exec = Jvm.exec → c.code = cc → meth.sig.returnType = ret → c.maxLocals = maxL → (∀ w ∈ TB, w.before vs.toArray s = true) → s.vm.findClass y.cls = some m.cls → meth.locks = false → meth.name = y.name → va_P (dC, dI) vwCl ws s.heap → va_K (dC, dI) vwCl [] s → va_D A ws → va_S A s.heap s.heap [] → (∀ q : Nat, s.heap.size ≤ q → A q) → lv_has ls maxL lv → NW s →
      W p l e rm s m vs.toArray below meth c s.heap [] 0 0 (MQ below (Qc A) vs.toArray s mc ms A) (F0 m 0 ls [])) (sz : Nat) :
    Met l y (wd (Cond.code y cc maxL ret)) rm (PRN dC dI vs ws sz) (Qc (va_A ws sz)) mc ms (va_A ws sz) := by
  refine Met.ofW (cc := cc) (maxL := maxL) (ret := ret) hy rfl ?_
  intro p e s m args below meth c s₁ B hml hv
  obtain ⟨rfl, hsz, hP, hK, hD0, hN⟩ := hv
  have hts := atoms_spec (ws := wd (Cond.code y cc maxL ret)) B.pre
  subst hsz
  have hl := lv_entry vs (n := maxL) hlen
  rw [lg_entry_eq]
  rw [hlv] at hl
  exact body p e s m below meth c (va_A ws s.heap.size) _ B.exec B.bytes B.returns hml (fun w h => hts w (List.mem_cons_of_mem _ h)) (findClass_of_methodNamed B.named) B.notSynchronized (name_of_methodNamed B.named B.method).1 hP hK hD0.self va_S.rf (fun q h => Or.inr h) hl hN
section
variable {p : Program} {l : Launch} {e : Env} {R : Room} {s : State} {m : MethodId} {args : Array Value} {below : List Frame} {meth : Method} {c : Code} {H : Heap} {locs : List Loc} {cells slots : Nat} {Q : State → Prop} {cc : ByteArray} {pc : Nat} {ls : Array Slot} {rest : List Value} {dC : Nat → ClassId} {dI : Nat → Nat → Nat} {A : Nat → Prop} {ws wr : va_W} {tys : List (ClassId × FieldType)}
theorem e_c {post : GA → Prop} {t2 : GA → List (ClassId × FieldType)} {w2 : GA → va_W} {mc ms : Nat} (hx : p.tables.exec = Jvm.exec) (hb : c.code = cc) (hr : meth.sig.returnType = none) (hlocks : meth.locks = false) (hK : va_K (dC, dI) vwCl tys s) (hP : va_P (dC, dI) vwCl ws H) (hD : va_D A ws) (hS : va_S A s.heap H locs) (u : GA) (hp : post u) (isT : List Nat) (hT : isT.filterMap (fun i => tys[i]?) = t2 u) (is : List Nat) (hn : va_nd is = true) (hs : is.map (fun i => ws[i]?) = (w2 u).map some) (hc : cells ≤ mc) (hm : slots ≤ ms) (hdg : decode cc pc = .ok (.return_, 1)) : W p l e R s m args below meth c H locs cells slots (MQ below (QC dC dI A post t2 w2) args s mc ms A) (F0 m pc ls []) := by
  refine W.widen (k := mc) (n := ms) hc hm ?_
  exact W.vret hx hb hr (fun t ht hW => ⟨⟨u, rfl, hp, by rw [ht]; exact P_sub hP is hs, va_K.moved hW.alike (hK.sub isT hT), hD.sub is hn hs⟩, hS.F ht⟩) hS.2.2 hdg hlocks
variable {y : MethodName} {bytes : ByteArray} {maxL nL idx ci b mc ms : Nat} {rm : Room} {own : String} {fs : List Value} {post : GA → Prop} {t2 : GA → List (ClassId × FieldType)} {w2 : GA → va_W}
theorem c_IN (S : CallFix p m c cc nL s args TB own) (M : MC l dC dI y (.code y bytes maxL none) rm b [(b, .inr (ci, fs))] post t2 w2 mc ms) (hN : NW s) (hK : va_K (dC, dI) vwCl tys s) (hP : va_P (dC, dI) vwCl ws H) (hD : va_D A ws) (hS : va_S A s.heap H locs) (hA : ∀ q : Nat, s.heap.size ≤ q → A q) (isC isR : List Nat) (hC : isC.map (fun i => ws[i]?) = [(b, .inr (ci, fs))].map some) (hR : isR.map (fun i => ws[i]?) = wr.map some) (hnC : va_nd isC = true) (hnR : va_nd isR = true) (hdis : ∀ i ∈ isR, i ∉ isC)
    (k1 : (own, idx, y) ∈ nestL) (k2 : Cond.instanceMethod y ∈ TB) (k4 : Cond.initialized y.cls ∈ TB) (k5 : Cond.code y bytes maxL none ∈ TB) (hy1 : y.name = "<init>") (hd : y.cls ≠ "java/lang/invoke/MethodHandle" ∧ y.cls ≠ "java/lang/invoke/VarHandle" ∧ (parseMethodDescriptor y.desc).map (fun d => d.parameters.length) = some 0) (hR2 : rm.frames + 1 ≤ R.frames ∧ 8 + (maxL + 11) + rm.locals ≤ R.locals) (hz : rm.cells = mc ∧ rm.slots = ms) (hsz : ls.size = nL) (hroom : (rest.map fun v => v.category).sum ≤ 8) (hdg : decode cc pc = .ok (.invokespecial idx, 3)) (hf : cells + mc ≤ R.cells ∧ slots + ms ≤ R.slots)
    (kk : ∀ (u : GA) (H1 : Heap) (locs1 : List Loc), post u → va_K (dC, dI) vwCl (tys ++ t2 u) s → va_P (dC, dI) vwCl (wr ++ w2 u) H1 → va_D A (wr ++ w2 u) → va_S A s.heap H1 locs1 → W p l e R s m args below meth c H1 locs1 (cells + mc) (slots + ms) Q (F0 m (pc + 3) ls rest)) : W p l e R s m args below meth c H locs cells slots Q (F0 m pc ls (.ref b :: rest)) := by
  have hPc := P_sub hP isC hC
  have hDc := hD.sub isC hnC hC
  have hKc := hK.sub (tys' := []) [] rfl
  have hFc := va_free hD hS hA isC hC
  refine va_callv (va_runIN (As := []) (rest := rest) S (M H.size) ⟨va_cnB 0 S.2.2.2.2 (wd_good k5) rfl hz.1 hz.2 (hN.1 _ k1) (S.2.2.2.2 _ k4) hd hR2, hy1, S.2.2.2.2 _ k2⟩ ⟨PRN_blind _ _ _ _ _, PRN_at hPc hKc hDc hN⟩ rfl rfl hsz rfl (lv_room hroom) hdg hf) hS (fun q _ h => hFc q h) hFc (fun u t H1 locs1 ht hvm hw hB hz1 hk1 hS => ?_)
  obtain ⟨hP1, hK1, hD1⟩ := hB
  rw [ht] at hP1
  obtain ⟨hP, hD⟩ := va_join hP hD isC isR hC hR hnR hdis hk1 hFc hP1 hD1
  exact kk u H1 locs1 hw (hK.app (va_K.moved hvm.symm hK1)) hP hD hS
theorem c_ID (S : CallFix p m c cc nL s args TB own) (M : MC l dC dI y (.code y bytes maxL none) rm b [(b, .inr (ci, fs))] post t2 w2 mc ms) (hN : NW s) (hK : va_K (dC, dI) vwCl tys s) (hP : va_P (dC, dI) vwCl ws H) (hD : va_D A ws) (hS : va_S A s.heap H locs) (hA : ∀ q : Nat, s.heap.size ≤ q → A q) (isC isR : List Nat) (hC : isC.map (fun i => ws[i]?) = [(b, .inr (ci, fs))].map some) (hR : isR.map (fun i => ws[i]?) = wr.map some) (hnC : va_nd isC = true) (hnR : va_nd isR = true) (hdis : ∀ i ∈ isR, i ∉ isC)
    (k1 : Cond.methodLink own idx y ∈ TB) (k2 : Cond.instanceMethod y ∈ TB) (k4 : Cond.initialized y.cls ∈ TB) (k5 : Cond.code y bytes maxL none ∈ TB) (hy1 : y.name = "<init>") (hd : y.cls ≠ "java/lang/invoke/MethodHandle" ∧ y.cls ≠ "java/lang/invoke/VarHandle" ∧ (parseMethodDescriptor y.desc).map (fun d => d.parameters.length) = some 0) (hR2 : rm.frames + 1 ≤ R.frames ∧ 8 + (maxL + 11) + rm.locals ≤ R.locals) (hz : rm.cells = mc ∧ rm.slots = ms) (hsz : ls.size = nL) (hroom : (rest.map fun v => v.category).sum ≤ 8) (hdg : decode cc pc = .ok (.invokespecial idx, 3)) (hf : cells + mc ≤ R.cells ∧ slots + ms ≤ R.slots)
    (kk : ∀ (u : GA) (H1 : Heap) (locs1 : List Loc), post u → va_K (dC, dI) vwCl (tys ++ t2 u) s → va_P (dC, dI) vwCl (wr ++ w2 u) H1 → va_D A (wr ++ w2 u) → va_S A s.heap H1 locs1 → W p l e R s m args below meth c H1 locs1 (cells + mc) (slots + ms) Q (F0 m (pc + 3) ls rest)) : W p l e R s m args below meth c H locs cells slots Q (F0 m pc ls (.ref b :: rest)) := by
  have hPc := P_sub hP isC hC
  have hDc := hD.sub isC hnC hC
  have hKc := hK.sub (tys' := []) [] rfl
  have hFc := va_free hD hS hA isC hC
  refine va_callv (va_runI (As := []) (rest := rest) S (M H.size) (cwI 0 S.2.2.2.2 (wd_good k5) rfl hz.1 hz.2 (S.2.2.2.2 _ k4) (S.2.2.2.2 _ k1) (S.2.2.2.2 _ k2) hy1 hd hR2) ⟨PRN_blind _ _ _ _ _, PRN_at hPc hKc hDc hN⟩ rfl rfl hsz rfl (lv_room hroom) hdg hf) hS (fun q _ h => hFc q h) hFc (fun u t H1 locs1 ht hvm hw hB hz1 hk1 hS => ?_)
  obtain ⟨hP1, hK1, hD1⟩ := hB
  rw [ht] at hP1
  obtain ⟨hP, hD⟩ := va_join hP hD isC isR hC hR hnR hdis hk1 hFc hP1 hD1
  exact kk u H1 locs1 hw (hK.app (va_K.moved hvm.symm hK1)) hP hD hS
end
theorem u_4 : upd (upd (upd (upd (fun _ => 0) (0 : Int32).toNatClampNeg (-1)) (1 : Int32).toNatClampNeg (-1)) (2 : Int32).toNatClampNeg (-1)) (3 : Int32).toNatClampNeg (-1) = nF := by
  funext k
  have e0 : (0 : Int32).toNatClampNeg = 0 := by decide
  have e1 : (1 : Int32).toNatClampNeg = 1 := by decide
  have e2 : (2 : Int32).toNatClampNeg = 2 := by decide
  have e3 : (3 : Int32).toNatClampNeg = 3 := by decide
  unfold upd nF
  rw [e0, e1, e2, e3]
  (repeat' split) <;> first | rfl | omega
theorem u_3 (a b c : Nat) : va_up (va_up (va_up (fun _ => none) (0 : Int32).toNatClampNeg (some a)) (1 : Int32).toNatClampNeg (some b)) (2 : Int32).toNatClampNeg (some c) = fun k : Nat => if k = 0 then some a else if k = 1 then some b else if k = 2 then some c else none := by
  funext k
  have e0 : (0 : Int32).toNatClampNeg = 0 := by decide
  have e1 : (1 : Int32).toNatClampNeg = 1 := by decide
  have e2 : (2 : Int32).toNatClampNeg = 2 := by decide
  unfold va_up
  rw [e0, e1, e2]
  (repeat' split) <;> first | rfl | omega
