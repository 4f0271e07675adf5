/-! The words that every contract of this claim shares, and calls with their frame as one row each. -/
def TB : List Cond := lw_tbl.filter goodWord
theorem TB_t {w : Cond} (h : w ∈ tables_1) (g : goodWord w = true) : w ∈ TB := List.mem_filter.mpr ⟨List.mem_append_right _ h, g⟩
theorem TB_s {w : Cond} (h : w ∈ k2_sels lw_privs) (g : goodWord w = true) : w ∈ TB := List.mem_filter.mpr ⟨List.mem_append_left _ h, g⟩
theorem TB_lw {w : Cond} (h : w ∈ TB) : w ∈ lw_tbl := (List.mem_filter.mp h).1
abbrev wd (c : Cond) : List Cond := c :: TB
theorem TB_good : GoodIn TB TB := fun w h => ⟨h, good_of_word (List.mem_filter.mp h).2⟩
theorem wd_good {c : Cond} (hc : c ∈ TB) : GoodIn TB (wd c) := fun w h => (List.mem_cons.mp h).elim (fun e => e ▸ TB_good c hc) (TB_good w)
theorem wdV_good {own C : String} {idx : Nat} {y : MethodName} {c : Cond} (k1 : Cond.methodLink own idx y ∈ TB) (k2 : Cond.instanceMethod y ∈ TB) (k3 : Cond.selects C y y ∈ TB) (k4 : Cond.initialized C ∈ TB) (k5 : c ∈ TB) : GoodIn TB (wsV own idx C y (wd c)) := by
  intro w h
  unfold wsV at h
  rcases List.mem_append.mp h with h | h
  · have h3 : w ∈ TB := by
      simp only [List.mem_cons, List.not_mem_nil, or_false] at h
      rcases h with rfl | rfl | rfl | rfl <;> assumption
    exact TB_good w h3
  · exact wd_good k5 w h
theorem wdS_good {own : String} {idx : Nat} {y : MethodName} {c : Cond} (k1 : Cond.methodLink own idx y ∈ TB) (k2 : Cond.static y ∈ TB) (k4 : Cond.initialized own ∈ TB) (k5 : c ∈ TB) : GoodIn TB (wsS own idx y (wd c)) := by
  intro w h
  unfold wsS at h
  rcases List.mem_append.mp h with h | h
  · have h3 : w ∈ TB := by
      simp only [List.mem_cons, List.not_mem_nil, or_false] at h
      rcases h with rfl | rfl | rfl <;> assumption
    exact TB_good w h3
  · exact wd_good k5 w h
theorem P_sub {D : va_G} {cl : List vw_C} {ws ws' : va_W} {H : Heap} (h : va_P D cl ws H) (is : List Nat) (hs : is.map (fun i => ws[i]?) = ws'.map some) : va_P D cl ws' H := by
  intro k q hq
  have h1 : (is.map (fun i => ws[i]?))[k]? = some (some q) := by rw [hs, List.getElem?_map, hq]; rfl
  rw [List.getElem?_map] at h1
  cases hi : is[k]? with
  | none => rw [hi] at h1; cases h1
  | some i => rw [hi] at h1; exact h i q (Option.some.inj h1)
/-- a contract's start: the arguments, the cells ws, their array classes tys -/
abbrev PRE (dC : Nat → ClassId) (dI : Nat → Nat → Nat) (vs : List Value) (tys : List (ClassId × FieldType)) (ws : va_W) (sz : Nat) : Array Value → State → Prop := va_Pc vs (fun U => U.heap.size = sz ∧ va_P (dC, dI) vwCl ws U.heap ∧ va_K (dC, dI) vwCl tys U ∧ va_D (fun _ => True) ws)
theorem PRE_blind (dC : Nat → ClassId) (dI : Nat → Nat → Nat) (vs : List Value) (tys : List (ClassId × FieldType)) (ws : va_W) (sz : Nat) : FrameBlind (PRE dC dI vs tys ws sz) := fun a U g mk q => by
  obtain ⟨q0, q1, qP, qK, qD⟩ := q
  exact ⟨q0, q1, qP, va_K.moved (u := U) (U := U.calling g mk a) (Vm.Alike.refl U.vm) qK, qD⟩
theorem PRE_at {dC : Nat → ClassId} {dI : Nat → Nat → Nat} {vs : List Value} {tys : List (ClassId × FieldType)} {wc : va_W} {s : State} {H : Heap} {A : Nat → Prop} (hP : va_P (dC, dI) vwCl wc H) (hK : va_K (dC, dI) vwCl tys s) (hD : va_D A wc) : ∀ U : State, U.heap = H → s.WarmedH U.vm → PRE dC dI vs tys wc H.size vs.toArray U := fun U hU hW => ⟨rfl, by rw [hU], by rw [hU]; exact hP, va_K.moved hW.alike hK, hD.weaken (fun _ _ _ _ => trivial)⟩
/-- ends: the answer, the cells w2 -/
abbrev QI (dC : Nat → ClassId) (dI : Nat → Nat → Nat) (A : Nat → Prop) (post : Int32 → Prop) (w2 : (Nat → Int32) → va_W) : Array Value → State → Outcome → State → Prop := va_Qi (fun (r : Int32) (_ : Nat → Int32) => post r) (fun (f : Nat → Int32) (t : State) => va_P (dC, dI) vwCl (w2 f) t.heap ∧ va_D A (w2 f)) A
abbrev QL (dC : Nat → ClassId) (dI : Nat → Nat → Nat) (A : Nat → Prop) (post : Int64 → Prop) (w2 : (Nat → Int32) → va_W) : Array Value → State → Outcome → State → Prop := va_Ql (fun (r : Int64) (_ : Nat → Int32) => post r) (fun (f : Nat → Int32) (t : State) => va_P (dC, dI) vwCl (w2 f) t.heap ∧ va_D A (w2 f)) A
abbrev QV (dC : Nat → ClassId) (dI : Nat → Nat → Nat) (A : Nat → Prop) (w2 : (Nat → Int32) → va_W) : Array Value → State → Outcome → State → Prop := va_Qv (fun (_ : Nat → Int32) => True) (fun (f : Nat → Int32) (t : State) => va_P (dC, dI) vwCl (w2 f) t.heap ∧ va_D A (w2 f)) A
abbrev QR (dC : Nat → ClassId) (dI : Nat → Nat → Nat) (A : Nat → Prop) (a0 : Nat) (w2 : (Nat → Int32) → va_W) : Array Value → State → Outcome → State → Prop := va_Qr (fun (_ : Nat → Int32) => True) (fun (f : Nat → Int32) (a : Nat) (t : State) => a = a0 ∧ va_P (dC, dI) vwCl (w2 f) t.heap ∧ va_D A (w2 f)) A
abbrev MI (l : Launch) (dC : Nat → ClassId) (dI : Nat → Nat → Nat) (y : MethodName) (c : Cond) (rm : Room) (vs : List Value) (tys : List (ClassId × FieldType)) (ws : va_W) (post : Int32 → Prop) (w2 : (Nat → Int32) → va_W) : Prop := ∀ sz : Nat, Met l y (wd c) rm (PRE dC dI vs tys ws sz) (QI dC dI (va_A ws sz) post w2) 0 0 (va_A ws sz)
abbrev ML (l : Launch) (dC : Nat → ClassId) (dI : Nat → Nat → Nat) (y : MethodName) (c : Cond) (rm : Room) (vs : List Value) (tys : List (ClassId × FieldType)) (ws : va_W) (post : Int64 → Prop) (w2 : (Nat → Int32) → va_W) : Prop := ∀ sz : Nat, Met l y (wd c) rm (PRE dC dI vs tys ws sz) (QL dC dI (va_A ws sz) post w2) 0 0 (va_A ws sz)
abbrev MV (l : Launch) (dC : Nat → ClassId) (dI : Nat → Nat → Nat) (y : MethodName) (c : Cond) (rm : Room) (vs : List Value) (tys : List (ClassId × FieldType)) (ws : va_W) (w2 : (Nat → Int32) → va_W) : Prop := ∀ sz : Nat, Met l y (wd c) rm (PRE dC dI vs tys ws sz) (QV dC dI (va_A ws sz) w2) 0 0 (va_A ws sz)
abbrev MR (l : Launch) (dC : Nat → ClassId) (dI : Nat → Nat → Nat) (y : MethodName) (c : Cond) (rm : Room) (vs : List Value) (tys : List (ClassId × FieldType)) (ws : va_W) (a0 : Nat) (w2 : (Nat → Int32) → va_W) : Prop := ∀ sz : Nat, Met l y (wd c) rm (PRE dC dI vs tys ws sz) (QR dC dI (va_A ws sz) a0 w2) 0 0 (va_A ws sz)
/-- a method's body, from its entry to an end Qc -/
theorem m_of {l : Launch} {dC : Nat → ClassId} {dI : Nat → Nat → Nat} {y : MethodName} {cc : ByteArray} {maxL : Nat} {ret : Option FieldType} {rm : Room} {vs : List Value} {tys : List (ClassId × FieldType)} {ws : va_W} {lv : List (Nat × Value)} {mc ms : Nat} {Qc : (Nat → Prop) → Array Value → State → Outcome → State → Prop}
    (hy : plainName y.cls = true) (hlen : (lg_sl vs).length ≤ maxL) (hlv : lv_args 0 vs = lv)
    (body : ∀ (p : Program) (e : Env) (s : State) (m : MethodId) (below : List Frame) (meth : Method) (c : Code) (A : Nat → Prop) (ls : Array Slot), p.tables.exec = Jvm.exec → c.code = cc → meth.sig.returnType = ret → c.maxLocals = maxL → (∀ w ∈ TB, w.before vs.toArray s = true) → s.vm.findClass y.cls = some m.cls → meth.locks = false → meth.name = y.name → va_P (dC, dI) vwCl ws s.heap → va_K (dC, dI) vwCl tys s → va_D A ws → va_S A s.heap s.heap [] → (∀ q : Nat, s.heap.size ≤ q → A q) → lv_has ls maxL lv →
      W p l e rm s m vs.toArray below meth c s.heap [] 0 0 (MQ below (Qc A) vs.toArray s mc ms A) (F0 m 0 ls [])) (sz : Nat) :
    Met l y (wd (Cond.code y cc maxL ret)) rm (PRE dC dI vs tys ws sz) (Qc (va_A ws sz)) mc ms (va_A ws sz) := by
  refine Met.ofW (cc := cc) (maxL := maxL) (ret := ret) hy rfl ?_
  intro p e s m args below meth c s₁ B hml hv
  obtain ⟨rfl, hsz, hP, hK, hD0⟩ := hv
  have hts := atoms_spec (ws := wd (Cond.code y cc maxL ret)) B.pre
  subst hsz
  have hl := lv_entry vs (n := maxL) hlen
  rw [lg_entry_eq]
  rw [hlv] at hl
  exact body p e s m below meth c (va_A ws s.heap.size) _ B.exec B.bytes B.returns hml (fun w h => hts w (List.mem_cons_of_mem _ h)) (findClass_of_methodNamed B.named) B.notSynchronized (name_of_methodNamed B.named B.method).1 hP hK hD0.self va_S.rf (fun q h => Or.inr h) hl
section
variable {p : Program} {l : Launch} {e : Env} {R : Room} {s : State} {m : MethodId} {args : Array Value} {below : List Frame} {meth : Method} {c : Code} {H : Heap} {locs : List Loc} {cells slots : Nat} {Q : State → Prop} {cc : ByteArray} {pc : Nat} {ls : Array Slot} {rest : List Value} {dC : Nat → ClassId} {dI : Nat → Nat → Nat} {A : Nat → Prop} {ws wc wr : va_W} {w2 : (Nat → Int32) → va_W} {tys ty1 : List (ClassId × FieldType)}
/-- another writing of the number on top -/
theorem t_i {x : Int32} (v : Int32) (h : x = v) (k : W p l e R s m args below meth c H locs cells slots Q (F0 m pc ls (.int v :: rest))) : W p l e R s m args below meth c H locs cells slots Q (F0 m pc ls (.int x :: rest)) := by rw [h]; exact k
theorem t_l {x : Int64} (v : Int64) (h : x = v) (k : W p l e R s m args below meth c H locs cells slots Q (F0 m pc ls (.long v :: rest))) : W p l e R s m args below meth c H locs cells slots Q (F0 m pc ls (.long x :: rest)) := by rw [h]; exact k
theorem t_v {x : Value} (v : Value) (h : x = v) (k : W p l e R s m args below meth c H locs cells slots Q (F0 m pc ls (v :: rest))) : W p l e R s m args below meth c H locs cells slots Q (F0 m pc ls (x :: rest)) := by rw [h]; exact k
/-- ends -/
theorem e_i {post : Int32 → Prop} {v : Int32} (hx : p.tables.exec = Jvm.exec) (hb : c.code = cc) (hr : meth.sig.returnType = some .int) (hlocks : meth.locks = false) (hP : va_P (dC, dI) vwCl ws H) (hD : va_D A ws) (hS : va_S A s.heap H locs) (f : Nat → Int32) (is : List Nat) (hn : va_nd is = true) (hs : is.map (fun i => ws[i]?) = (w2 f).map some) (hp : post v) (hdg : decode cc pc = .ok (.ireturn, 1)) : W p l e R s m args below meth c H locs 0 0 (MQ below (QI dC dI A post w2) args s 0 0 A) (F0 m pc ls [.int v]) :=
  W.iret (v := v) hx hb hr (fun t ht hW => ⟨⟨v, f, rfl, hp, by rw [ht]; exact P_sub hP is hs, hD.sub is hn hs⟩, hS.F ht⟩) hS.2.2 hdg hlocks
theorem e_z {post : Int32 → Prop} {v : Int32} (hx : p.tables.exec = Jvm.exec) (hb : c.code = cc) (hr : meth.sig.returnType = some .boolean) (hlocks : meth.locks = false) (hP : va_P (dC, dI) vwCl ws H) (hD : va_D A ws) (hS : va_S A s.heap H locs) (f : Nat → Int32) (is : List Nat) (hn : va_nd is = true) (hs : is.map (fun i => ws[i]?) = (w2 f).map some) (hp : post v) (hz : narrow .boolean (.int v) = .int v) (hdg : decode cc pc = .ok (.ireturn, 1)) : W p l e R s m args below meth c H locs 0 0 (MQ below (QI dC dI A post w2) args s 0 0 A) (F0 m pc ls [.int v]) :=
  W.zret (v := v) hx hb hr hz (fun t ht hW => ⟨⟨v, f, rfl, hp, by rw [ht]; exact P_sub hP is hs, hD.sub is hn hs⟩, hS.F ht⟩) hS.2.2 hdg hlocks
theorem e_l {post : Int64 → Prop} {v : Int64} (hx : p.tables.exec = Jvm.exec) (hb : c.code = cc) (hr : meth.sig.returnType = some .long) (hlocks : meth.locks = false) (hP : va_P (dC, dI) vwCl ws H) (hD : va_D A ws) (hS : va_S A s.heap H locs) (f : Nat → Int32) (is : List Nat) (hn : va_nd is = true) (hs : is.map (fun i => ws[i]?) = (w2 f).map some) (hp : post v) (hdg : decode cc pc = .ok (.lreturn, 1)) : W p l e R s m args below meth c H locs 0 0 (MQ below (QL dC dI A post w2) args s 0 0 A) (F0 m pc ls [.long v]) :=
  W.lret (v := v) hx hb hr (fun t ht hW => ⟨⟨v, f, rfl, hp, by rw [ht]; exact P_sub hP is hs, hD.sub is hn hs⟩, hS.F ht⟩) hS.2.2 hdg hlocks
theorem e_v (hx : p.tables.exec = Jvm.exec) (hb : c.code = cc) (hr : meth.sig.returnType = none) (hlocks : meth.locks = false) (hP : va_P (dC, dI) vwCl ws H) (hD : va_D A ws) (hS : va_S A s.heap H locs) (f : Nat → Int32) (is : List Nat) (hn : va_nd is = true) (hs : is.map (fun i => ws[i]?) = (w2 f).map some) (hdg : decode cc pc = .ok (.return_, 1)) : W p l e R s m args below meth c H locs 0 0 (MQ below (QV dC dI A w2) args s 0 0 A) (F0 m pc ls []) :=
  W.vret hx hb hr (fun t ht hW => ⟨⟨f, rfl, trivial, by rw [ht]; exact P_sub hP is hs, hD.sub is hn hs⟩, hS.F ht⟩) hS.2.2 hdg hlocks
theorem e_r {a0 : Nat} {cn : String} (hx : p.tables.exec = Jvm.exec) (hb : c.code = cc) (hr : meth.sig.returnType = some (.object cn)) (hlocks : meth.locks = false) (hP : va_P (dC, dI) vwCl ws H) (hD : va_D A ws) (hS : va_S A s.heap H locs) (f : Nat → Int32) (is : List Nat) (hn : va_nd is = true) (hs : is.map (fun i => ws[i]?) = (w2 f).map some) (hdg : decode cc pc = .ok (.areturn, 1)) : W p l e R s m args below meth c H locs 0 0 (MQ below (QR dC dI A a0 w2) args s 0 0 A) (F0 m pc ls [.ref a0]) :=
  W.aret (v := .ref a0) hx hb hr (Or.inl ⟨cn, rfl⟩) (Or.inr ⟨a0, rfl⟩) (fun t ht hW => ⟨⟨f, a0, rfl, trivial, rfl, by rw [ht]; exact P_sub hP is hs, hD.sub is hn hs⟩, hS.F ht⟩) hS.2.2 hdg hlocks
variable {y : MethodName} {bytes : ByteArray} {maxL nL idx n ci N b : Nat} {ret : Option FieldType} {rm : Room} {As : List Value} {own C : String} {T : u_T} {fs : List Value}
/-- calls with their frame: the callee's cells at the places isC, the caller's that go on at isR -/
theorem c_Vi {post : Int32 → Prop} (S : CallFix p m c cc nL s args TB own) (M : MI l dC dI y (.code y bytes maxL ret) rm (.ref b :: As) ty1 wc post w2) (hK : va_K (dC, dI) vwCl tys s) (hP : va_P (dC, dI) vwCl ws H) (hD : va_D A ws) (hS : va_S A s.heap H locs) (hA : ∀ q : Nat, s.heap.size ≤ q → A q) (isT : List Nat) (hT1 : isT.filterMap (fun i => tys[i]?) = ty1) (isC isR : List Nat) (hC : isC.map (fun i => ws[i]?) = wc.map some) (hR : isR.map (fun i => ws[i]?) = wr.map some) (hnC : va_nd isC = true) (hnR : va_nd isR = true) (hdis : ∀ i ∈ isR, i ∉ isC) (hc0 : vwCl[ci]? = some (C, T, N)) (he0 : wc[0]? = some (b, .inr (ci, fs)))
    (k1 : Cond.methodLink own idx y ∈ TB) (k2 : Cond.instanceMethod y ∈ TB) (k3 : Cond.selects C y y ∈ TB) (k4 : Cond.initialized C ∈ TB) (k5 : Cond.code y bytes maxL ret ∈ TB) (hd : y.cls = C ∧ y.cls ≠ "java/lang/invoke/MethodHandle" ∧ y.cls ≠ "java/lang/invoke/VarHandle" ∧ (parseMethodDescriptor y.desc).map (fun d => d.parameters.length) = some n) (hR2 : rm.frames + 1 ≤ R.frames ∧ 8 + (maxL + 11) + rm.locals ≤ R.locals) (hz : rm.cells = 0 ∧ rm.slots = 0) (hn : As.length = n) (hsz : ls.size = nL) (hroom : (rest.map fun v => v.category).sum ≤ 8) {st : List Value} (hst : st = As.reverse ++ .ref b :: rest) (hdg : decode cc pc = .ok (.invokevirtual idx, 3)) (hf : cells ≤ R.cells ∧ slots ≤ R.slots)
    (kk : ∀ (r : Int32) (f : Nat → Int32) (H1 : Heap) (locs1 : List Loc), post r → va_P (dC, dI) vwCl (wr ++ w2 f) H1 → va_D A (wr ++ w2 f) → va_S A s.heap H1 locs1 → W p l e R s m args below meth c H1 locs1 cells slots Q (F0 m (pc + 3) ls (.int r :: rest))) : W p l e R s m args below meth c H locs cells slots Q (F0 m pc ls st) := by
  subst hst
  have hPc := P_sub hP isC hC
  have hDc := hD.sub isC hnC hC
  have hKc := hK.sub isT hT1
  have hFc := va_free hD hS hA isC hC
  refine va_calli (va_runV (As := As) (rest := rest) S (M H.size) (cwV n S.2.2.2.2 (wdV_good k1 k2 k3 k4 k5) rfl hz.1 hz.2 hd hR2) ⟨PRE_blind _ _ _ _ _ _, va_recv hKc hPc hc0 he0, PRE_at hPc hKc hDc⟩ rfl hn hsz rfl (lv_room hroom) hdg hf) hS (fun q _ h => hFc q h) hFc (fun r u t H1 locs1 ht hvm hw hB hz1 hk1 hS => ?_)
  obtain ⟨hP1, hD1⟩ := hB
  rw [ht] at hP1
  obtain ⟨hP, hD⟩ := va_join hP hD isC isR hC hR hnR hdis hk1 hFc hP1 hD1
  exact kk r u H1 locs1 hw hP hD hS
theorem c_Vl {post : Int64 → Prop} (S : CallFix p m c cc nL s args TB own) (M : ML l dC dI y (.code y bytes maxL ret) rm (.ref b :: As) ty1 wc post w2) (hK : va_K (dC, dI) vwCl tys s) (hP : va_P (dC, dI) vwCl ws H) (hD : va_D A ws) (hS : va_S A s.heap H locs) (hA : ∀ q : Nat, s.heap.size ≤ q → A q) (isT : List Nat) (hT1 : isT.filterMap (fun i => tys[i]?) = ty1) (isC isR : List Nat) (hC : isC.map (fun i => ws[i]?) = wc.map some) (hR : isR.map (fun i => ws[i]?) = wr.map some) (hnC : va_nd isC = true) (hnR : va_nd isR = true) (hdis : ∀ i ∈ isR, i ∉ isC) (hc0 : vwCl[ci]? = some (C, T, N)) (he0 : wc[0]? = some (b, .inr (ci, fs)))
    (k1 : Cond.methodLink own idx y ∈ TB) (k2 : Cond.instanceMethod y ∈ TB) (k3 : Cond.selects C y y ∈ TB) (k4 : Cond.initialized C ∈ TB) (k5 : Cond.code y bytes maxL ret ∈ TB) (hd : y.cls = C ∧ y.cls ≠ "java/lang/invoke/MethodHandle" ∧ y.cls ≠ "java/lang/invoke/VarHandle" ∧ (parseMethodDescriptor y.desc).map (fun d => d.parameters.length) = some n) (hR2 : rm.frames + 1 ≤ R.frames ∧ 8 + (maxL + 11) + rm.locals ≤ R.locals) (hz : rm.cells = 0 ∧ rm.slots = 0) (hn : As.length = n) (hsz : ls.size = nL) (hroom : (rest.map fun v => v.category).sum ≤ 8) {st : List Value} (hst : st = As.reverse ++ .ref b :: rest) (hdg : decode cc pc = .ok (.invokevirtual idx, 3)) (hf : cells ≤ R.cells ∧ slots ≤ R.slots)
    (kk : ∀ (r : Int64) (f : Nat → Int32) (H1 : Heap) (locs1 : List Loc), post r → va_P (dC, dI) vwCl (wr ++ w2 f) H1 → va_D A (wr ++ w2 f) → va_S A s.heap H1 locs1 → W p l e R s m args below meth c H1 locs1 cells slots Q (F0 m (pc + 3) ls (.long r :: rest))) : W p l e R s m args below meth c H locs cells slots Q (F0 m pc ls st) := by
  subst hst
  have hPc := P_sub hP isC hC
  have hDc := hD.sub isC hnC hC
  have hKc := hK.sub isT hT1
  have hFc := va_free hD hS hA isC hC
  refine va_calll (va_runV (As := As) (rest := rest) S (M H.size) (cwV n S.2.2.2.2 (wdV_good k1 k2 k3 k4 k5) rfl hz.1 hz.2 hd hR2) ⟨PRE_blind _ _ _ _ _ _, va_recv hKc hPc hc0 he0, PRE_at hPc hKc hDc⟩ rfl hn hsz rfl (lv_room hroom) hdg hf) hS (fun q _ h => hFc q h) hFc (fun r u t H1 locs1 ht hvm hw hB hz1 hk1 hS => ?_)
  obtain ⟨hP1, hD1⟩ := hB
  rw [ht] at hP1
  obtain ⟨hP, hD⟩ := va_join hP hD isC isR hC hR hnR hdis hk1 hFc hP1 hD1
  exact kk r u H1 locs1 hw hP hD hS
theorem c_Vv (S : CallFix p m c cc nL s args TB own) (M : MV l dC dI y (.code y bytes maxL ret) rm (.ref b :: As) ty1 wc w2) (hK : va_K (dC, dI) vwCl tys s) (hP : va_P (dC, dI) vwCl ws H) (hD : va_D A ws) (hS : va_S A s.heap H locs) (hA : ∀ q : Nat, s.heap.size ≤ q → A q) (isT : List Nat) (hT1 : isT.filterMap (fun i => tys[i]?) = ty1) (isC isR : List Nat) (hC : isC.map (fun i => ws[i]?) = wc.map some) (hR : isR.map (fun i => ws[i]?) = wr.map some) (hnC : va_nd isC = true) (hnR : va_nd isR = true) (hdis : ∀ i ∈ isR, i ∉ isC) (hc0 : vwCl[ci]? = some (C, T, N)) (he0 : wc[0]? = some (b, .inr (ci, fs)))
    (k1 : Cond.methodLink own idx y ∈ TB) (k2 : Cond.instanceMethod y ∈ TB) (k3 : Cond.selects C y y ∈ TB) (k4 : Cond.initialized C ∈ TB) (k5 : Cond.code y bytes maxL ret ∈ TB) (hd : y.cls = C ∧ y.cls ≠ "java/lang/invoke/MethodHandle" ∧ y.cls ≠ "java/lang/invoke/VarHandle" ∧ (parseMethodDescriptor y.desc).map (fun d => d.parameters.length) = some n) (hR2 : rm.frames + 1 ≤ R.frames ∧ 8 + (maxL + 11) + rm.locals ≤ R.locals) (hz : rm.cells = 0 ∧ rm.slots = 0) (hn : As.length = n) (hsz : ls.size = nL) (hroom : (rest.map fun v => v.category).sum ≤ 8) {st : List Value} (hst : st = As.reverse ++ .ref b :: rest) (hdg : decode cc pc = .ok (.invokevirtual idx, 3)) (hf : cells ≤ R.cells ∧ slots ≤ R.slots)
    (kk : ∀ (f : Nat → Int32) (H1 : Heap) (locs1 : List Loc), va_P (dC, dI) vwCl (wr ++ w2 f) H1 → va_D A (wr ++ w2 f) → va_S A s.heap H1 locs1 → W p l e R s m args below meth c H1 locs1 cells slots Q (F0 m (pc + 3) ls rest)) : W p l e R s m args below meth c H locs cells slots Q (F0 m pc ls st) := by
  subst hst
  have hPc := P_sub hP isC hC
  have hDc := hD.sub isC hnC hC
  have hKc := hK.sub isT hT1
  have hFc := va_free hD hS hA isC hC
  refine va_callv (va_runV (As := As) (rest := rest) S (M H.size) (cwV n S.2.2.2.2 (wdV_good k1 k2 k3 k4 k5) rfl hz.1 hz.2 hd hR2) ⟨PRE_blind _ _ _ _ _ _, va_recv hKc hPc hc0 he0, PRE_at hPc hKc hDc⟩ rfl hn hsz rfl (lv_room hroom) hdg hf) hS (fun q _ h => hFc q h) hFc (fun u t H1 locs1 ht hvm hw hB hz1 hk1 hS => ?_)
  obtain ⟨hP1, hD1⟩ := hB
  rw [ht] at hP1
  obtain ⟨hP, hD⟩ := va_join hP hD isC isR hC hR hnR hdis hk1 hFc hP1 hD1
  exact kk u H1 locs1 hP hD hS
theorem c_Vr {a0 : Nat} (S : CallFix p m c cc nL s args TB own) (M : MR l dC dI y (.code y bytes maxL ret) rm (.ref b :: As) ty1 wc a0 w2) (hK : va_K (dC, dI) vwCl tys s) (hP : va_P (dC, dI) vwCl ws H) (hD : va_D A ws) (hS : va_S A s.heap H locs) (hA : ∀ q : Nat, s.heap.size ≤ q → A q) (isT : List Nat) (hT1 : isT.filterMap (fun i => tys[i]?) = ty1) (isC isR : List Nat) (hC : isC.map (fun i => ws[i]?) = wc.map some) (hR : isR.map (fun i => ws[i]?) = wr.map some) (hnC : va_nd isC = true) (hnR : va_nd isR = true) (hdis : ∀ i ∈ isR, i ∉ isC) (hc0 : vwCl[ci]? = some (C, T, N)) (he0 : wc[0]? = some (b, .inr (ci, fs)))
    (k1 : Cond.methodLink own idx y ∈ TB) (k2 : Cond.instanceMethod y ∈ TB) (k3 : Cond.selects C y y ∈ TB) (k4 : Cond.initialized C ∈ TB) (k5 : Cond.code y bytes maxL ret ∈ TB) (hd : y.cls = C ∧ y.cls ≠ "java/lang/invoke/MethodHandle" ∧ y.cls ≠ "java/lang/invoke/VarHandle" ∧ (parseMethodDescriptor y.desc).map (fun d => d.parameters.length) = some n) (hR2 : rm.frames + 1 ≤ R.frames ∧ 8 + (maxL + 11) + rm.locals ≤ R.locals) (hz : rm.cells = 0 ∧ rm.slots = 0) (hn : As.length = n) (hsz : ls.size = nL) (hroom : (rest.map fun v => v.category).sum ≤ 8) {st : List Value} (hst : st = As.reverse ++ .ref b :: rest) (hdg : decode cc pc = .ok (.invokevirtual idx, 3)) (hf : cells ≤ R.cells ∧ slots ≤ R.slots)
    (kk : ∀ (f : Nat → Int32) (H1 : Heap) (locs1 : List Loc), va_P (dC, dI) vwCl (wr ++ w2 f) H1 → va_D A (wr ++ w2 f) → va_S A s.heap H1 locs1 → W p l e R s m args below meth c H1 locs1 cells slots Q (F0 m (pc + 3) ls (.ref a0 :: rest))) : W p l e R s m args below meth c H locs cells slots Q (F0 m pc ls st) := by
  subst hst
  have hPc := P_sub hP isC hC
  have hDc := hD.sub isC hnC hC
  have hKc := hK.sub isT hT1
  have hFc := va_free hD hS hA isC hC
  refine va_callr (va_runV (As := As) (rest := rest) S (M H.size) (cwV n S.2.2.2.2 (wdV_good k1 k2 k3 k4 k5) rfl hz.1 hz.2 hd hR2) ⟨PRE_blind _ _ _ _ _ _, va_recv hKc hPc hc0 he0, PRE_at hPc hKc hDc⟩ rfl hn hsz rfl (lv_room hroom) hdg hf) hS (fun q _ h => hFc q h) hFc (fun u a t H1 locs1 ht hvm hw hB hz1 hk1 hS => ?_)
  obtain ⟨rfl, hP1, hD1⟩ := hB
  rw [ht] at hP1
  obtain ⟨hP, hD⟩ := va_join hP hD isC isR hC hR hnR hdis hk1 hFc hP1 hD1
  exact kk u H1 locs1 hP hD hS
theorem c_Si {post : Int32 → Prop} (S : CallFix p m c cc nL s args TB own) (M : MI l dC dI y (.code y bytes maxL ret) rm As ty1 wc post w2) (hK : va_K (dC, dI) vwCl tys s) (hP : va_P (dC, dI) vwCl ws H) (hD : va_D A ws) (hS : va_S A s.heap H locs) (hA : ∀ q : Nat, s.heap.size ≤ q → A q) (isT : List Nat) (hT1 : isT.filterMap (fun i => tys[i]?) = ty1) (isC isR : List Nat) (hC : isC.map (fun i => ws[i]?) = wc.map some) (hR : isR.map (fun i => ws[i]?) = wr.map some) (hnC : va_nd isC = true) (hnR : va_nd isR = true) (hdis : ∀ i ∈ isR, i ∉ isC)
    (k1 : Cond.methodLink own idx y ∈ TB) (k2 : Cond.static y ∈ TB) (k4 : Cond.initialized own ∈ TB) (k5 : Cond.code y bytes maxL ret ∈ TB) (hd : y.cls = own ∧ y.cls ≠ "java/lang/invoke/MethodHandle" ∧ y.cls ≠ "java/lang/invoke/VarHandle" ∧ (parseMethodDescriptor y.desc).map (fun d => d.parameters.length) = some n) (hR2 : rm.frames + 1 ≤ R.frames ∧ 8 + (maxL + 11) + rm.locals ≤ R.locals) (hz : rm.cells = 0 ∧ rm.slots = 0) (hn : As.length = n) (hsz : ls.size = nL) (hroom : (rest.map fun v => v.category).sum ≤ 8) {st : List Value} (hst : st = As.reverse ++ rest) (hdg : decode cc pc = .ok (.invokestatic idx, 3)) (hf : cells ≤ R.cells ∧ slots ≤ R.slots)
    (kk : ∀ (r : Int32) (f : Nat → Int32) (H1 : Heap) (locs1 : List Loc), post r → va_P (dC, dI) vwCl (wr ++ w2 f) H1 → va_D A (wr ++ w2 f) → va_S A s.heap H1 locs1 → W p l e R s m args below meth c H1 locs1 cells slots Q (F0 m (pc + 3) ls (.int r :: rest))) : W p l e R s m args below meth c H locs cells slots Q (F0 m pc ls st) := by
  subst hst
  have hPc := P_sub hP isC hC
  have hDc := hD.sub isC hnC hC
  have hKc := hK.sub isT hT1
  have hFc := va_free hD hS hA isC hC
  refine va_calli (va_runS (As := As) (rest := rest) S (M H.size) (cwS n S.2.2.2.2 (wdS_good k1 k2 k4 k5) rfl hz.1 hz.2 hd hR2) ⟨PRE_blind _ _ _ _ _ _, PRE_at hPc hKc hDc⟩ rfl hn hsz rfl (lv_room hroom) hdg hf) hS (fun q _ h => hFc q h) hFc (fun r u t H1 locs1 ht hvm hw hB hz1 hk1 hS => ?_)
  obtain ⟨hP1, hD1⟩ := hB
  rw [ht] at hP1
  obtain ⟨hP, hD⟩ := va_join hP hD isC isR hC hR hnR hdis hk1 hFc hP1 hD1
  exact kk r u H1 locs1 hw hP hD hS
end
/-! numbers, by their values -/
theorem i_lt {x y : Int32} (a b : Int) (hx : x.toInt = a) (hy : y.toInt = b) (h : x < y) : a < b := by rw [← hx, ← hy]; exact Int32.lt_iff_toInt_lt.mp h
theorem i_nlt {x y : Int32} (a b : Int) (hx : x.toInt = a) (hy : y.toInt = b) (h : ¬ x < y) : b ≤ a := by
  rw [← hx, ← hy]; exact Int.not_lt.mp (fun q => h (Int32.lt_iff_toInt_lt.mpr q))
theorem i_le {x y : Int32} (a b : Int) (hx : x.toInt = a) (hy : y.toInt = b) (h : x ≤ y) : a ≤ b := by rw [← hx, ← hy]; exact Int32.le_iff_toInt_le.mp h
theorem i_nle {x y : Int32} (a b : Int) (hx : x.toInt = a) (hy : y.toInt = b) (h : ¬ x ≤ y) : b < a := by
  rw [← hx, ← hy]; exact Int.not_le.mp (fun q => h (Int32.le_iff_toInt_le.mpr q))
theorem i_eq {x y : Int32} (a b : Int) (hx : x.toInt = a) (hy : y.toInt = b) (h : x = y) : a = b := by rw [← hx, ← hy, h]
theorem i_neq {x y : Int32} (a b : Int) (hx : x.toInt = a) (hy : y.toInt = b) (h : ¬ x = y) : ¬ a = b := by
  rw [← hx, ← hy]; exact fun q => h (Int32.toInt_inj.mp q)
theorem i_in {x : Int32} {n : Nat} (h0 : 0 ≤ x.toInt) (h1 : x.toInt < n) : vp_in x n := vp_in_iff.mpr ⟨h0, h1⟩
theorem i_of {x : Int32} (v : Int32) (h : x.toInt = v.toInt) : x = v := Int32.toInt_inj.mp h
theorem sp0 (x : Int32) : x = 0 ∨ x.toInt < 0 ∨ 0 < x.toInt := by
  by_cases h : x.toInt = 0
  · exact Or.inl (i_of 0 (h.trans (by decide)))
  · omega
theorem sp2 (x : Int32) : x = 0 ∨ x = 1 ∨ x = 2 ∨ x.toInt < 0 ∨ 2 < x.toInt := by
  by_cases h0 : x.toInt = 0
  · exact Or.inl (i_of 0 (h0.trans (by decide)))
  by_cases h1 : x.toInt = 1
  · exact Or.inr (Or.inl (i_of 1 (h1.trans (by decide))))
  by_cases h2 : x.toInt = 2
  · exact Or.inr (Or.inr (Or.inl (i_of 2 (h2.trans (by decide)))))
  omega
theorem sp3 (x : Int32) : x = 0 ∨ x = 1 ∨ x = 2 ∨ x = 3 ∨ x.toInt < 0 ∨ 3 < x.toInt := by
  rcases sp2 x with h | h | h | h | h
  · exact Or.inl h
  · exact Or.inr (Or.inl h)
  · exact Or.inr (Or.inr (Or.inl h))
  · omega
  · by_cases h3 : x.toInt = 3
    · exact Or.inr (Or.inr (Or.inr (Or.inl (i_of 3 (h3.trans (by decide))))))
    · omega
theorem l_clt {x y : Int64} (h : lg_cmp x y < 0) : x.toInt < y.toInt := Int64.lt_iff_toInt_lt.mp ((lg_cmp_lt x y).mp h)
theorem l_cnlt {x y : Int64} (h : ¬ lg_cmp x y < 0) : y.toInt ≤ x.toInt := Int.not_lt.mp (fun q => h ((lg_cmp_lt x y).mpr (Int64.lt_iff_toInt_lt.mpr q)))
theorem l_cgt {x y : Int64} (h : 0 < lg_cmp x y) : y.toInt < x.toInt := Int64.lt_iff_toInt_lt.mp ((lg_cmp_gt x y).mp h)
theorem l_cngt {x y : Int64} (h : ¬ 0 < lg_cmp x y) : x.toInt ≤ y.toInt := Int.not_lt.mp (fun q => h ((lg_cmp_gt x y).mpr (Int64.lt_iff_toInt_lt.mpr q)))
theorem u_z (k : Nat) : upd (fun _ => (0 : Int32)) k 0 = fun _ => 0 := by
  funext j; unfold upd; split <;> rfl
theorem u_zn (k : Nat) (ty : FieldType) (h : vp_nar ty 0 = 0) : upd (fun _ => (0 : Int32)) k (vp_nar ty 0) = fun _ => 0 := by rw [h]; exact u_z k
theorem u_zl (k : Nat) : vp_updL (fun _ => (0 : Int64)) k 0 = fun _ => 0 := by
  funext j; unfold vp_updL; split <;> rfl
theorem c_z {α : Type} (v : α) (a b n : Nat) : va_cpy (fun _ => v) (fun _ => v) a b n = fun _ => v := by
  funext j; unfold va_cpy; split <;> rfl
def nF : Nat → Int32 := fun k => if k < 4 then -1 else 0
theorem nF_at {x : Int32} (h0 : 0 ≤ x.toInt) (h1 : x.toInt ≤ 3) : nF x.toNatClampNeg = -1 := by
  rcases sp3 x with rfl | rfl | rfl | rfl | h | h
  · decide
  · decide
  · decide
  · decide
  · omega
  · omega
