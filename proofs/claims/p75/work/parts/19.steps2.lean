/-! Steps of the plain machine, one row an instruction. -/
theorem pinv_eq {d d' : PMd} {i : Instr} {st : List PV} {idx t m a : Nat} {vt : Bool} (hi : gInv i = some (idx, vt)) (hm : mtab d.1 idx = some (t, m, a)) (hp : PP[m]? = some d') : pinv d i 3 st = (if d'.2.2.2.2.2.1 + 1 ≤ d.2.2.2.2.2.1 ∧ 8 + (d'.2.2.2.1 + 11) + d'.2.2.2.2.2.2.1 ≤ d.2.2.2.2.2.2.1 ∧ a ≤ st.length then
          if vt = true ∧ t = 0 then match st.drop a with
            | v :: rest => if pclsOf v = some d'.1 ∧ (rest.map pc2).sum ≤ 8 ∧ 1 + ((st.take a).map pc2).sum ≤ d'.2.2.2.1 then some (m, v :: (st.take a).reverse, rest) else none
            | [] => none
          else if vt = false ∧ (t = 1 ∨ t = 2) then if ((st.drop a).map pc2).sum ≤ 8 ∧ ((st.take a).map pc2).sum ≤ d'.2.2.2.1 then some (m, (st.take a).reverse, st.drop a) else none
          else none
        else none) := by
  unfold pinv
  rw [hi]
  show (match mtab d.1 idx with | some (t, m, a) => _ | none => _) = _
  rw [hm]
  show (match PP[m]? with | some d' => _ | none => _) = _
  rw [hp]
  rfl
theorem pinv_no {d : PMd} {i : Instr} {st : List PV} {idx t m a : Nat} {vt : Bool} (hi : gInv i = some (idx, vt)) (hm : mtab d.1 idx = some (t, m, a)) (hp : PP[m]? = none) : pinv d i 3 st = none := by
  unfold pinv
  rw [hi]
  show (match mtab d.1 idx with | some (t, m, a) => _ | none => _) = _
  rw [hm]
  show (match PP[m]? with | some d' => _ | none => _) = _
  rw [hp]
theorem sNat_eq {d : PMd} {i : Instr} {pc : Nat} {L : PL} {st : List PV} {h : PH} {idx t b a : Nat} {vt : Bool} (hi : gInv i = some (idx, vt)) (hm : mtab d.1 idx = some (t, b, a)) : sNat d i 3 pc L st h = (if t = 3 ∧ vt = false then match gNat b h st with
        | some (st', h') => if (pBn b).1 ≤ d.2.2.2.2.2.1 ∧ (pBn b).2.1 ≤ d.2.2.2.2.2.2.1 ∧ ((st.drop (pBn b).2.2).map pc2).sum ≤ 8 then some (pc + 3, L, st', h') else none
        | none => none
      else none) := by
  unfold sNat
  rw [hi]
  show (match mtab d.1 idx with | some (t, b, _) => _ | none => _) = _
  rw [hm]
  rfl
section
def gq_ld : Instr → Bool
  | .iload_n _ => true
  | .iload _ => true
  | .lload_n _ => true
  | .lload _ => true
  | .aload_n _ => true
  | .aload _ => true
  | _ => false
def gq_st : Instr → Bool
  | .istore_n _ => true
  | .istore _ => true
  | .lstore_n _ => true
  | .lstore _ => true
  | .astore_n _ => true
  | .astore _ => true
  | _ => false
def gq_inc : Instr → Bool
  | .iinc _ _ => true
  | _ => false
def gq_if : Instr → Bool
  | .ifCond _ _ => true
  | _ => false
def gq_cmp : Instr → Bool
  | .if_icmp _ _ => true
  | _ => false
def gq_go : Instr → Bool
  | .goto _ => true
  | _ => false
def gWrq : Instr → Bool
  | .putfield _ => true
  | .iastore => true
  | .bastore => true
  | .lastore => true
  | _ => false
def wI (h : PH) (k j : Nat) (x : Int32) : PH := (rI h.1 k (upd (h.1 k) j x), h.2)
def wL (h : PH) (k j : Nat) (x : Int64) : PH := (h.1, rL h.2 k (vp_updL (h.2 k) j x))
def gRdq : Instr → Bool
  | .getfield _ => true
  | .iaload => true
  | .baload => true
  | .laload => true
  | .aaload => true
  | .ldc _ => true
  | .ldc_w _ => true
  | .ldc2_w _ => true
  | .getstatic _ => true
  | .arraylength => true
  | _ => false
variable {d : PMd} {pc : Nat} {L : PL} {st : List PV} {h : PH} {Q : Option PV → PH → Prop}
theorem pn_ld {i : Instr} {n : Nat} {x : PN} (hg : gq_ld i = true) (e : sLd i n pc L st h = some x) : pnext d i n pc L st h = some x := by
  unfold gq_ld at hg
  split at hg <;> first | cases hg | skip
  all_goals (unfold pnext; rw [e]; rfl)
theorem pn_st {i : Instr} {n : Nat} {x : PN} (hg : gq_st i = true) (e : sSt d.2.2.2.1 i n pc L st h = some x) : pnext d i n pc L st h = some x := by
  unfold gq_st at hg
  split at hg <;> first | cases hg | skip
  all_goals (unfold pnext; rw [e]; rfl)
theorem pn_inc {i : Instr} {n : Nat} {x : PN} (hg : gq_inc i = true) (e : sInc d.2.2.2.1 i n pc L st h = some x) : pnext d i n pc L st h = some x := by
  unfold gq_inc at hg
  split at hg <;> first | cases hg | skip
  all_goals (unfold pnext; rw [e]; rfl)
theorem pn_if {i : Instr} {n : Nat} {x : PN} (hg : gq_if i = true) (e : sIf i n pc L st h = some x) : pnext d i n pc L st h = some x := by
  unfold gq_if at hg
  split at hg <;> first | cases hg | skip
  all_goals (unfold pnext; rw [e]; rfl)
theorem pn_cmp {i : Instr} {n : Nat} {x : PN} (hg : gq_cmp i = true) (e : sCmp i n pc L st h = some x) : pnext d i n pc L st h = some x := by
  unfold gq_cmp at hg
  split at hg <;> first | cases hg | skip
  all_goals (unfold pnext; rw [e]; rfl)
theorem pn_go {i : Instr} {n : Nat} {x : PN} (hg : gq_go i = true) (e : sGo i n pc L st h = some x) : pnext d i n pc L st h = some x := by
  unfold gq_go at hg
  split at hg <;> first | cases hg | skip
  all_goals (unfold pnext; rw [e]; rfl)
theorem RUN_nx {i : Instr} {n : Nat} {x : PN} (hi : d.2.2.2.2.2.2.2[pc]? = some (some (i, n))) (hr : (if n = 1 then gRet d.2.2.2.2.1 i st else none) = none) (hv : pinv d i n st = none) (hn : pnext d i n pc L st h = some x) (k : RUN d x.1 x.2.1 x.2.2.1 x.2.2.2 Q) : RUN d pc L st h Q := by
  refine RUN_on (x := x) ?_ k
  unfold pone
  rw [hi]
  dsimp only
  rw [hr]
  dsimp only
  rw [hv]
  dsimp only
  rw [hn]
theorem R_iadd {x y : Int32} (hi : d.2.2.2.2.2.2.2[pc]? = some (some (.iadd, 1))) (k : RUN d (pc + 1) L (.inl (x + y) :: st) h Q) : RUN d pc L (.inl y :: .inl x :: st) h Q := RUN_nx (x := (pc + 1, L, .inl (x + y) :: st, h)) hi rfl rfl rfl k
theorem R_isub {x y : Int32} (hi : d.2.2.2.2.2.2.2[pc]? = some (some (.isub, 1))) (k : RUN d (pc + 1) L (.inl (x - y) :: st) h Q) : RUN d pc L (.inl y :: .inl x :: st) h Q := RUN_nx (x := (pc + 1, L, .inl (x - y) :: st, h)) hi rfl rfl rfl k
theorem R_imul {x y : Int32} (hi : d.2.2.2.2.2.2.2[pc]? = some (some (.imul, 1))) (k : RUN d (pc + 1) L (.inl (x * y) :: st) h Q) : RUN d pc L (.inl y :: .inl x :: st) h Q := RUN_nx (x := (pc + 1, L, .inl (x * y) :: st, h)) hi rfl rfl rfl k
theorem R_iand {x y : Int32} (hi : d.2.2.2.2.2.2.2[pc]? = some (some (.iand, 1))) (k : RUN d (pc + 1) L (.inl (x &&& y) :: st) h Q) : RUN d pc L (.inl y :: .inl x :: st) h Q := RUN_nx (x := (pc + 1, L, .inl (x &&& y) :: st, h)) hi rfl rfl rfl k
theorem R_ior {x y : Int32} (hi : d.2.2.2.2.2.2.2[pc]? = some (some (.ior, 1))) (k : RUN d (pc + 1) L (.inl (x ||| y) :: st) h Q) : RUN d pc L (.inl y :: .inl x :: st) h Q := RUN_nx (x := (pc + 1, L, .inl (x ||| y) :: st, h)) hi rfl rfl rfl k
theorem R_ixor {x y : Int32} (hi : d.2.2.2.2.2.2.2[pc]? = some (some (.ixor, 1))) (k : RUN d (pc + 1) L (.inl (x ^^^ y) :: st) h Q) : RUN d pc L (.inl y :: .inl x :: st) h Q := RUN_nx (x := (pc + 1, L, .inl (x ^^^ y) :: st, h)) hi rfl rfl rfl k
theorem R_ishl {x y : Int32} (hi : d.2.2.2.2.2.2.2[pc]? = some (some (.ishl, 1))) (k : RUN d (pc + 1) L (.inl (x <<< (y &&& 31)) :: st) h Q) : RUN d pc L (.inl y :: .inl x :: st) h Q := RUN_nx (x := (pc + 1, L, .inl (x <<< (y &&& 31)) :: st, h)) hi rfl rfl rfl k
theorem R_ishr {x y : Int32} (hi : d.2.2.2.2.2.2.2[pc]? = some (some (.ishr, 1))) (k : RUN d (pc + 1) L (.inl (x >>> (y &&& 31)) :: st) h Q) : RUN d pc L (.inl y :: .inl x :: st) h Q := RUN_nx (x := (pc + 1, L, .inl (x >>> (y &&& 31)) :: st, h)) hi rfl rfl rfl k
theorem R_iushr {x y : Int32} (hi : d.2.2.2.2.2.2.2[pc]? = some (some (.iushr, 1))) (k : RUN d (pc + 1) L (.inl ((x.toUInt32 >>> (y.toUInt32 &&& Int32.toUInt32 31)).toInt32) :: st) h Q) : RUN d pc L (.inl y :: .inl x :: st) h Q := RUN_nx (x := (pc + 1, L, .inl ((x.toUInt32 >>> (y.toUInt32 &&& Int32.toUInt32 31)).toInt32) :: st, h)) hi rfl rfl rfl k
theorem R_idiv {x y : Int32} (hi : d.2.2.2.2.2.2.2[pc]? = some (some (.idiv, 1))) (hy : ¬ y = 0) (k : RUN d (pc + 1) L (.inl (x / y) :: st) h Q) : RUN d pc L (.inl y :: .inl x :: st) h Q := RUN_nx (x := (pc + 1, L, .inl (x / y) :: st, h)) hi rfl rfl (by show Option.or (sBin (.idiv) 1 pc L (.inl y :: .inl x :: st) h) _ = _; rw [show sBin (.idiv) 1 pc L (.inl y :: .inl x :: st) h = some (pc + 1, L, .inl (x / y) :: st, h) by show (match (if y = 0 then none else some (x / y)) with | some z => some ((pc + 1, L, (Sum.inl z : PV) :: st, h) : PN) | none => none) = _; rw [if_neg hy]]; rfl) k
theorem R_irem {x y : Int32} (hi : d.2.2.2.2.2.2.2[pc]? = some (some (.irem, 1))) (hy : ¬ y = 0) (k : RUN d (pc + 1) L (.inl (x - x / y * y) :: st) h Q) : RUN d pc L (.inl y :: .inl x :: st) h Q := RUN_nx (x := (pc + 1, L, .inl (x - x / y * y) :: st, h)) hi rfl rfl (by show Option.or (sBin (.irem) 1 pc L (.inl y :: .inl x :: st) h) _ = _; rw [show sBin (.irem) 1 pc L (.inl y :: .inl x :: st) h = some (pc + 1, L, .inl (x - x / y * y) :: st, h) by show (match (if y = 0 then none else some (x - x / y * y)) with | some z => some ((pc + 1, L, (Sum.inl z : PV) :: st, h) : PN) | none => none) = _; rw [if_neg hy]]; rfl) k
theorem R_ladd {x y : Int64} (hi : d.2.2.2.2.2.2.2[pc]? = some (some (.ladd, 1))) (k : RUN d (pc + 1) L (.inr (.inl (x + y)) :: st) h Q) : RUN d pc L (.inr (.inl y) :: .inr (.inl x) :: st) h Q := RUN_nx (x := (pc + 1, L, .inr (.inl (x + y)) :: st, h)) hi rfl rfl rfl k
theorem R_lsub {x y : Int64} (hi : d.2.2.2.2.2.2.2[pc]? = some (some (.lsub, 1))) (k : RUN d (pc + 1) L (.inr (.inl (x - y)) :: st) h Q) : RUN d pc L (.inr (.inl y) :: .inr (.inl x) :: st) h Q := RUN_nx (x := (pc + 1, L, .inr (.inl (x - y)) :: st, h)) hi rfl rfl rfl k
theorem R_lmul {x y : Int64} (hi : d.2.2.2.2.2.2.2[pc]? = some (some (.lmul, 1))) (k : RUN d (pc + 1) L (.inr (.inl (x * y)) :: st) h Q) : RUN d pc L (.inr (.inl y) :: .inr (.inl x) :: st) h Q := RUN_nx (x := (pc + 1, L, .inr (.inl (x * y)) :: st, h)) hi rfl rfl rfl k
theorem R_land {x y : Int64} (hi : d.2.2.2.2.2.2.2[pc]? = some (some (.land, 1))) (k : RUN d (pc + 1) L (.inr (.inl (x &&& y)) :: st) h Q) : RUN d pc L (.inr (.inl y) :: .inr (.inl x) :: st) h Q := RUN_nx (x := (pc + 1, L, .inr (.inl (x &&& y)) :: st, h)) hi rfl rfl rfl k
theorem R_lor {x y : Int64} (hi : d.2.2.2.2.2.2.2[pc]? = some (some (.lor, 1))) (k : RUN d (pc + 1) L (.inr (.inl (x ||| y)) :: st) h Q) : RUN d pc L (.inr (.inl y) :: .inr (.inl x) :: st) h Q := RUN_nx (x := (pc + 1, L, .inr (.inl (x ||| y)) :: st, h)) hi rfl rfl rfl k
theorem R_ldiv {x y : Int64} (hi : d.2.2.2.2.2.2.2[pc]? = some (some (.ldiv, 1))) (hy : ¬ y = 0) (k : RUN d (pc + 1) L (.inr (.inl (x / y)) :: st) h Q) : RUN d pc L (.inr (.inl y) :: .inr (.inl x) :: st) h Q := RUN_nx (x := (pc + 1, L, .inr (.inl (x / y)) :: st, h)) hi rfl rfl (by show Option.or none (Option.or (sBinL (.ldiv) 1 pc L (.inr (.inl y) :: .inr (.inl x) :: st) h) _) = _; rw [show sBinL (.ldiv) 1 pc L (.inr (.inl y) :: .inr (.inl x) :: st) h = some (pc + 1, L, .inr (.inl (x / y)) :: st, h) by show (match (if y = 0 then none else some (x / y)) with | some z => some ((pc + 1, L, (Sum.inr (Sum.inl z) : PV) :: st, h) : PN) | none => none) = _; rw [if_neg hy]]; rfl) k
theorem R_lrem {x y : Int64} (hi : d.2.2.2.2.2.2.2[pc]? = some (some (.lrem, 1))) (hy : ¬ y = 0) (k : RUN d (pc + 1) L (.inr (.inl (x - x / y * y)) :: st) h Q) : RUN d pc L (.inr (.inl y) :: .inr (.inl x) :: st) h Q := RUN_nx (x := (pc + 1, L, .inr (.inl (x - x / y * y)) :: st, h)) hi rfl rfl (by show Option.or none (Option.or (sBinL (.lrem) 1 pc L (.inr (.inl y) :: .inr (.inl x) :: st) h) _) = _; rw [show sBinL (.lrem) 1 pc L (.inr (.inl y) :: .inr (.inl x) :: st) h = some (pc + 1, L, .inr (.inl (x - x / y * y)) :: st, h) by show (match (if y = 0 then none else some (x - x / y * y)) with | some z => some ((pc + 1, L, (Sum.inr (Sum.inl z) : PV) :: st, h) : PN) | none => none) = _; rw [if_neg hy]]; rfl) k
theorem R_lshl {x : Int64} {y : Int32} (hi : d.2.2.2.2.2.2.2[pc]? = some (some (.lshl, 1))) (k : RUN d (pc + 1) L (.inr (.inl (x <<< (y.toInt64 &&& 63))) :: st) h Q) : RUN d pc L (.inl y :: .inr (.inl x) :: st) h Q := RUN_nx (x := (pc + 1, L, .inr (.inl (x <<< (y.toInt64 &&& 63))) :: st, h)) hi rfl rfl rfl k
theorem R_lshr {x : Int64} {y : Int32} (hi : d.2.2.2.2.2.2.2[pc]? = some (some (.lshr, 1))) (k : RUN d (pc + 1) L (.inr (.inl (x >>> (y.toInt64 &&& 63))) :: st) h Q) : RUN d pc L (.inl y :: .inr (.inl x) :: st) h Q := RUN_nx (x := (pc + 1, L, .inr (.inl (x >>> (y.toInt64 &&& 63))) :: st, h)) hi rfl rfl rfl k
theorem R_lushr {x : Int64} {y : Int32} (hi : d.2.2.2.2.2.2.2[pc]? = some (some (.lushr, 1))) (k : RUN d (pc + 1) L (.inr (.inl ((x.toUInt64 >>> (y.toInt64.toUInt64 &&& Int64.toUInt64 63)).toInt64)) :: st) h Q) : RUN d pc L (.inl y :: .inr (.inl x) :: st) h Q := RUN_nx (x := (pc + 1, L, .inr (.inl ((x.toUInt64 >>> (y.toInt64.toUInt64 &&& Int64.toUInt64 63)).toInt64)) :: st, h)) hi rfl rfl rfl k
theorem R_ineg {x : Int32} (hi : d.2.2.2.2.2.2.2[pc]? = some (some (.ineg, 1))) (k : RUN d (pc + 1) L (.inl (-x) :: st) h Q) : RUN d pc L (.inl x :: st) h Q := RUN_nx (x := (pc + 1, L, .inl (-x) :: st, h)) hi rfl rfl rfl k
theorem R_i2b {x : Int32} (hi : d.2.2.2.2.2.2.2[pc]? = some (some (.i2b, 1))) (k : RUN d (pc + 1) L (.inl (x.toInt8.toInt32) :: st) h Q) : RUN d pc L (.inl x :: st) h Q := RUN_nx (x := (pc + 1, L, .inl (x.toInt8.toInt32) :: st, h)) hi rfl rfl rfl k
theorem R_i2s {x : Int32} (hi : d.2.2.2.2.2.2.2[pc]? = some (some (.i2s, 1))) (k : RUN d (pc + 1) L (.inl (x.toInt16.toInt32) :: st) h Q) : RUN d pc L (.inl x :: st) h Q := RUN_nx (x := (pc + 1, L, .inl (x.toInt16.toInt32) :: st, h)) hi rfl rfl rfl k
theorem R_i2c {x : Int32} (hi : d.2.2.2.2.2.2.2[pc]? = some (some (.i2c, 1))) (k : RUN d (pc + 1) L (.inl ((x.toUInt32 % 65536).toInt32) :: st) h Q) : RUN d pc L (.inl x :: st) h Q := RUN_nx (x := (pc + 1, L, .inl ((x.toUInt32 % 65536).toInt32) :: st, h)) hi rfl rfl rfl k
theorem R_i2l {x : Int32} (hi : d.2.2.2.2.2.2.2[pc]? = some (some (.i2l, 1))) (k : RUN d (pc + 1) L (.inr (.inl x.toInt64) :: st) h Q) : RUN d pc L (.inl x :: st) h Q := RUN_nx (x := (pc + 1, L, .inr (.inl x.toInt64) :: st, h)) hi rfl rfl rfl k
theorem R_l2i {x : Int64} (hi : d.2.2.2.2.2.2.2[pc]? = some (some (.l2i, 1))) (k : RUN d (pc + 1) L (.inl x.toInt32 :: st) h Q) : RUN d pc L (.inr (.inl x) :: st) h Q := RUN_nx (x := (pc + 1, L, .inl x.toInt32 :: st, h)) hi rfl rfl rfl k
theorem R_lneg {x : Int64} (hi : d.2.2.2.2.2.2.2[pc]? = some (some (.lneg, 1))) (k : RUN d (pc + 1) L (.inr (.inl (-x)) :: st) h Q) : RUN d pc L (.inr (.inl x) :: st) h Q := RUN_nx (x := (pc + 1, L, .inr (.inl (-x)) :: st, h)) hi rfl rfl rfl k
theorem R_lcmp {x y : Int64} (hi : d.2.2.2.2.2.2.2[pc]? = some (some (.lcmp, 1))) (k : RUN d (pc + 1) L (.inl (lg_cmp x y) :: st) h Q) : RUN d pc L (.inr (.inl y) :: .inr (.inl x) :: st) h Q := RUN_nx (x := (pc + 1, L, .inl (lg_cmp x y) :: st, h)) hi rfl rfl rfl k
theorem R_dup_i {x : Int32} (hi : d.2.2.2.2.2.2.2[pc]? = some (some (.dup, 1))) (k : RUN d (pc + 1) L (.inl x :: .inl x :: st) h Q) : RUN d pc L (.inl x :: st) h Q := RUN_nx (x := (pc + 1, L, .inl x :: .inl x :: st, h)) hi rfl rfl rfl k
theorem R_dup_r {x : Nat} (hi : d.2.2.2.2.2.2.2[pc]? = some (some (.dup, 1))) (k : RUN d (pc + 1) L (.inr (.inr (.inl x)) :: .inr (.inr (.inl x)) :: st) h Q) : RUN d pc L (.inr (.inr (.inl x)) :: st) h Q := RUN_nx (x := (pc + 1, L, .inr (.inr (.inl x)) :: .inr (.inr (.inl x)) :: st, h)) hi rfl rfl rfl k
theorem R_pop_i {x : Int32} (hi : d.2.2.2.2.2.2.2[pc]? = some (some (.pop, 1))) (k : RUN d (pc + 1) L (st) h Q) : RUN d pc L (.inl x :: st) h Q := RUN_nx (x := (pc + 1, L, st, h)) hi rfl rfl rfl k
theorem R_pop_r {x : Nat} (hi : d.2.2.2.2.2.2.2[pc]? = some (some (.pop, 1))) (k : RUN d (pc + 1) L (st) h Q) : RUN d pc L (.inr (.inr (.inl x)) :: st) h Q := RUN_nx (x := (pc + 1, L, st, h)) hi rfl rfl rfl k
theorem R_pop2 {x : Int64} (hi : d.2.2.2.2.2.2.2[pc]? = some (some (.pop2, 1))) (k : RUN d (pc + 1) L (st) h Q) : RUN d pc L (.inr (.inl x) :: st) h Q := RUN_nx (x := (pc + 1, L, st, h)) hi rfl rfl rfl k
theorem R_dup2 {x : Int32} {y : Nat} (hi : d.2.2.2.2.2.2.2[pc]? = some (some (.dup2, 1))) (k : RUN d (pc + 1) L (.inl x :: .inr (.inr (.inl y)) :: .inl x :: .inr (.inr (.inl y)) :: st) h Q) : RUN d pc L (.inl x :: .inr (.inr (.inl y)) :: st) h Q := RUN_nx (x := (pc + 1, L, .inl x :: .inr (.inr (.inl y)) :: .inl x :: .inr (.inr (.inl y)) :: st, h)) hi rfl rfl rfl k
theorem R_iconst {n : Int} (v : Int32) (hi : d.2.2.2.2.2.2.2[pc]? = some (some (.iconst n, 1))) (hv : Int32.ofInt n = v) (k : RUN d (pc + 1) L (.inl v :: st) h Q) : RUN d pc L st h Q := RUN_nx (x := (pc + 1, L, .inl v :: st, h)) hi rfl rfl (by subst hv; rfl) k
theorem R_bipush {n : Int} (v : Int32) (hi : d.2.2.2.2.2.2.2[pc]? = some (some (.bipush n, 2))) (hv : (Int8.ofInt n).toInt32 = v) (k : RUN d (pc + 2) L (.inl v :: st) h Q) : RUN d pc L st h Q := RUN_nx (x := (pc + 2, L, .inl v :: st, h)) hi rfl rfl (by subst hv; rfl) k
theorem R_sipush {n : Int} (v : Int32) (hi : d.2.2.2.2.2.2.2[pc]? = some (some (.sipush n, 3))) (hv : (Int16.ofInt n).toInt32 = v) (k : RUN d (pc + 3) L (.inl v :: st) h Q) : RUN d pc L st h Q := RUN_nx (x := (pc + 3, L, .inl v :: st, h)) hi rfl rfl (by subst hv; rfl) k
theorem R_lconst {n : Fin 2} (v : Int64) (hi : d.2.2.2.2.2.2.2[pc]? = some (some (.lconst n, 1))) (hv : Int64.ofNat (n : Nat) = v) (k : RUN d (pc + 1) L (.inr (.inl v) :: st) h Q) : RUN d pc L st h Q := RUN_nx (x := (pc + 1, L, .inr (.inl v) :: st, h)) hi rfl rfl (by subst hv; rfl) k
theorem sLd_at {i : Instr} {n k t : Nat} {v : PV} (hg : gLd i = some (k, t, n)) (hv : pget L k = some v) (ht : pkind v = t) (ho : pok v = true) : sLd i n pc L st h = some (pc + n, L, v :: st, h) := by
  unfold sLd
  rw [hg]
  dsimp only
  rw [hv]
  dsimp only
  rw [if_pos ⟨rfl, ht, ho⟩]
theorem R_iload_n {x : Int32} {j : Fin 4} {k : Nat} (hk : (j : Nat) = k) (hi : d.2.2.2.2.2.2.2[pc]? = some (some (.iload_n j, 1))) (hv : pget L k = some (.inl x)) (kk : RUN d (pc + 1) L (.inl x :: st) h Q) : RUN d pc L st h Q := RUN_nx (x := (pc + 1, L, .inl x :: st, h)) hi rfl rfl (by subst hk; exact pn_ld rfl (sLd_at (k := (j : Nat)) (t := 0) rfl hv rfl rfl)) kk
theorem R_iload {x : Int32} {k : Nat} (hi : d.2.2.2.2.2.2.2[pc]? = some (some (.iload k, 2))) (hv : pget L k = some (.inl x)) (kk : RUN d (pc + 2) L (.inl x :: st) h Q) : RUN d pc L st h Q := RUN_nx (x := (pc + 2, L, .inl x :: st, h)) hi rfl rfl (pn_ld rfl (sLd_at (k := k) (t := 0) rfl hv rfl rfl)) kk
theorem R_lload_n {x : Int64} {j : Fin 4} {k : Nat} (hk : (j : Nat) = k) (hi : d.2.2.2.2.2.2.2[pc]? = some (some (.lload_n j, 1))) (hv : pget L k = some (.inr (.inl x))) (kk : RUN d (pc + 1) L (.inr (.inl x) :: st) h Q) : RUN d pc L st h Q := RUN_nx (x := (pc + 1, L, .inr (.inl x) :: st, h)) hi rfl rfl (by subst hk; exact pn_ld rfl (sLd_at (k := (j : Nat)) (t := 1) rfl hv rfl rfl)) kk
theorem R_lload {x : Int64} {k : Nat} (hi : d.2.2.2.2.2.2.2[pc]? = some (some (.lload k, 2))) (hv : pget L k = some (.inr (.inl x))) (kk : RUN d (pc + 2) L (.inr (.inl x) :: st) h Q) : RUN d pc L st h Q := RUN_nx (x := (pc + 2, L, .inr (.inl x) :: st, h)) hi rfl rfl (pn_ld rfl (sLd_at (k := k) (t := 1) rfl hv rfl rfl)) kk
theorem R_aload_n {x : Nat} {j : Fin 4} {k : Nat} (hk : (j : Nat) = k) (hi : d.2.2.2.2.2.2.2[pc]? = some (some (.aload_n j, 1))) (hv : pget L k = some (.inr (.inr (.inl x)))) (kk : RUN d (pc + 1) L (.inr (.inr (.inl x)) :: st) h Q) : RUN d pc L st h Q := RUN_nx (x := (pc + 1, L, .inr (.inr (.inl x)) :: st, h)) hi rfl rfl (by subst hk; exact pn_ld rfl (sLd_at (k := (j : Nat)) (t := 2) rfl hv rfl rfl)) kk
theorem R_aload {x : Nat} {k : Nat} (hi : d.2.2.2.2.2.2.2[pc]? = some (some (.aload k, 2))) (hv : pget L k = some (.inr (.inr (.inl x)))) (kk : RUN d (pc + 2) L (.inr (.inr (.inl x)) :: st) h Q) : RUN d pc L st h Q := RUN_nx (x := (pc + 2, L, .inr (.inr (.inl x)) :: st, h)) hi rfl rfl (pn_ld rfl (sLd_at (k := k) (t := 2) rfl hv rfl rfl)) kk
theorem R_aload_c {x : Nat} {j : Fin 4} {k : Nat} (hk : (j : Nat) = k) (hi : d.2.2.2.2.2.2.2[pc]? = some (some (.aload_n j, 1))) (hv : pget L k = some (.inr (.inr (.inr x)))) (hx : x < 29) (kk : RUN d (pc + 1) L (.inr (.inr (.inr x)) :: st) h Q) : RUN d pc L st h Q := RUN_nx (x := (pc + 1, L, .inr (.inr (.inr x)) :: st, h)) hi rfl rfl (by subst hk; exact pn_ld rfl (sLd_at (k := (j : Nat)) (t := 2) rfl hv rfl (decide_eq_true hx))) kk
theorem sSt_at {i : Instr} {n k t : Nat} {v : PV} (hg : gSt i = some (k, t, n)) (ht : pkind v = t) (ho : pok v = true) (hk : k + 1 < d.2.2.2.1 + pwid t) : sSt d.2.2.2.1 i n pc L (v :: st) h = some (pc + n, pstore t L k v, st, h) := by
  unfold sSt
  rw [hg]
  dsimp only
  rw [if_pos ⟨rfl, ⟨ht, ho⟩, hk⟩]
theorem R_istore_n {x : Int32} {j : Fin 4} {k : Nat} (hk : (j : Nat) = k) (L' : PL) (hi : d.2.2.2.2.2.2.2[pc]? = some (some (.istore_n j, 1))) (hL : pset1 L k (.inl x) = L') (hm : k + 1 < d.2.2.2.1 + 1) (kk : RUN d (pc + 1) L' st h Q) : RUN d pc L (.inl x :: st) h Q := RUN_nx (x := (pc + 1, L', st, h)) hi rfl rfl (by subst hk; subst hL; exact pn_st rfl (sSt_at (k := (j : Nat)) (t := 0) rfl rfl rfl hm)) kk
theorem R_istore {x : Int32} {k : Nat} (L' : PL) (hi : d.2.2.2.2.2.2.2[pc]? = some (some (.istore k, 2))) (hL : pset1 L k (.inl x) = L') (hm : k + 1 < d.2.2.2.1 + 1) (kk : RUN d (pc + 2) L' st h Q) : RUN d pc L (.inl x :: st) h Q := RUN_nx (x := (pc + 2, L', st, h)) hi rfl rfl (by subst hL; exact pn_st rfl (sSt_at (k := k) (t := 0) rfl rfl rfl hm)) kk
theorem R_lstore_n {x : Int64} {j : Fin 4} {k : Nat} (hk : (j : Nat) = k) (L' : PL) (hi : d.2.2.2.2.2.2.2[pc]? = some (some (.lstore_n j, 1))) (hL : pset2 L k (.inr (.inl x)) = L') (hm : k + 1 < d.2.2.2.1 + 0) (kk : RUN d (pc + 1) L' st h Q) : RUN d pc L (.inr (.inl x) :: st) h Q := RUN_nx (x := (pc + 1, L', st, h)) hi rfl rfl (by subst hk; subst hL; exact pn_st rfl (sSt_at (k := (j : Nat)) (t := 1) rfl rfl rfl hm)) kk
theorem R_lstore {x : Int64} {k : Nat} (L' : PL) (hi : d.2.2.2.2.2.2.2[pc]? = some (some (.lstore k, 2))) (hL : pset2 L k (.inr (.inl x)) = L') (hm : k + 1 < d.2.2.2.1 + 0) (kk : RUN d (pc + 2) L' st h Q) : RUN d pc L (.inr (.inl x) :: st) h Q := RUN_nx (x := (pc + 2, L', st, h)) hi rfl rfl (by subst hL; exact pn_st rfl (sSt_at (k := k) (t := 1) rfl rfl rfl hm)) kk
theorem R_astore_n {x : Nat} {j : Fin 4} {k : Nat} (hk : (j : Nat) = k) (L' : PL) (hi : d.2.2.2.2.2.2.2[pc]? = some (some (.astore_n j, 1))) (hL : pset1 L k (.inr (.inr (.inl x))) = L') (hm : k + 1 < d.2.2.2.1 + 1) (kk : RUN d (pc + 1) L' st h Q) : RUN d pc L (.inr (.inr (.inl x)) :: st) h Q := RUN_nx (x := (pc + 1, L', st, h)) hi rfl rfl (by subst hk; subst hL; exact pn_st rfl (sSt_at (k := (j : Nat)) (t := 2) rfl rfl rfl hm)) kk
theorem R_astore {x : Nat} {k : Nat} (L' : PL) (hi : d.2.2.2.2.2.2.2[pc]? = some (some (.astore k, 2))) (hL : pset1 L k (.inr (.inr (.inl x))) = L') (hm : k + 1 < d.2.2.2.1 + 1) (kk : RUN d (pc + 2) L' st h Q) : RUN d pc L (.inr (.inr (.inl x)) :: st) h Q := RUN_nx (x := (pc + 2, L', st, h)) hi rfl rfl (by subst hL; exact pn_st rfl (sSt_at (k := k) (t := 2) rfl rfl rfl hm)) kk
theorem R_iinc {k : Nat} {z : Int} {x : Int32} (L' : PL) (hi : d.2.2.2.2.2.2.2[pc]? = some (some (.iinc k z, 3))) (hv : pget L k = some (.inl x)) (hL : pset1 L k (.inl (x + Int32.ofInt z)) = L') (hm : k < d.2.2.2.1) (kk : RUN d (pc + 3) L' st h Q) : RUN d pc L st h Q := RUN_nx (x := (pc + 3, L', st, h)) hi rfl rfl (by
  subst hL
  have e : sInc d.2.2.2.1 (.iinc k z) 3 pc L st h = some (pc + 3, pset1 L k (.inl (x + Int32.ofInt z)), st, h) := sInc_at hv hm
  exact pn_inc rfl e) kk
theorem R_if_eq {x : Int32} {off : Int} (tgt : Nat) (hi : d.2.2.2.2.2.2.2[pc]? = some (some (.ifCond .eq off, 3))) (ht : ptg pc off = some tgt) (kt : x = 0 → RUN d tgt L st h Q) (kf : ¬ (x = 0) → RUN d (pc + 3) L st h Q) : RUN d pc L (.inl x :: st) h Q := by
  have e : ∀ y : PN, sIf (.ifCond .eq off) 3 pc L (.inl x :: st) h = some y → pnext d (.ifCond .eq off) 3 pc L (.inl x :: st) h = some y := fun y hy => pn_if rfl hy
  by_cases c : x = 0
  · exact RUN_nx (x := (tgt, L, st, h)) hi rfl rfl (e _ (by show (match ptg pc off with | some t => if (fun x : Int32 => decide (x = 0)) x = true then some (t, L, st, h) else some (pc + 3, L, st, h) | none => none) = _; rw [ht]; show (if (fun x : Int32 => decide (x = 0)) x = true then some (tgt, L, st, h) else some (pc + 3, L, st, h)) = _; rw [if_pos (decide_eq_true c)])) (kt c)
  · exact RUN_nx (x := (pc + 3, L, st, h)) hi rfl rfl (e _ (by show (match ptg pc off with | some t => if (fun x : Int32 => decide (x = 0)) x = true then some (t, L, st, h) else some (pc + 3, L, st, h) | none => none) = _; rw [ht]; show (if (fun x : Int32 => decide (x = 0)) x = true then some (tgt, L, st, h) else some (pc + 3, L, st, h)) = _; rw [if_neg (fun z => c (of_decide_eq_true z))])) (kf c)
theorem R_if_ne {x : Int32} {off : Int} (tgt : Nat) (hi : d.2.2.2.2.2.2.2[pc]? = some (some (.ifCond .ne off, 3))) (ht : ptg pc off = some tgt) (kt : ¬ x = 0 → RUN d tgt L st h Q) (kf : ¬ (¬ x = 0) → RUN d (pc + 3) L st h Q) : RUN d pc L (.inl x :: st) h Q := by
  have e : ∀ y : PN, sIf (.ifCond .ne off) 3 pc L (.inl x :: st) h = some y → pnext d (.ifCond .ne off) 3 pc L (.inl x :: st) h = some y := fun y hy => pn_if rfl hy
  by_cases c : ¬ x = 0
  · exact RUN_nx (x := (tgt, L, st, h)) hi rfl rfl (e _ (by show (match ptg pc off with | some t => if (fun x : Int32 => decide (¬ x = 0)) x = true then some (t, L, st, h) else some (pc + 3, L, st, h) | none => none) = _; rw [ht]; show (if (fun x : Int32 => decide (¬ x = 0)) x = true then some (tgt, L, st, h) else some (pc + 3, L, st, h)) = _; rw [if_pos (decide_eq_true c)])) (kt c)
  · exact RUN_nx (x := (pc + 3, L, st, h)) hi rfl rfl (e _ (by show (match ptg pc off with | some t => if (fun x : Int32 => decide (¬ x = 0)) x = true then some (t, L, st, h) else some (pc + 3, L, st, h) | none => none) = _; rw [ht]; show (if (fun x : Int32 => decide (¬ x = 0)) x = true then some (tgt, L, st, h) else some (pc + 3, L, st, h)) = _; rw [if_neg (fun z => c (of_decide_eq_true z))])) (kf c)
theorem R_if_lt {x : Int32} {off : Int} (tgt : Nat) (hi : d.2.2.2.2.2.2.2[pc]? = some (some (.ifCond .lt off, 3))) (ht : ptg pc off = some tgt) (kt : x < 0 → RUN d tgt L st h Q) (kf : ¬ (x < 0) → RUN d (pc + 3) L st h Q) : RUN d pc L (.inl x :: st) h Q := by
  have e : ∀ y : PN, sIf (.ifCond .lt off) 3 pc L (.inl x :: st) h = some y → pnext d (.ifCond .lt off) 3 pc L (.inl x :: st) h = some y := fun y hy => pn_if rfl hy
  by_cases c : x < 0
  · exact RUN_nx (x := (tgt, L, st, h)) hi rfl rfl (e _ (by show (match ptg pc off with | some t => if (fun x : Int32 => decide (x < 0)) x = true then some (t, L, st, h) else some (pc + 3, L, st, h) | none => none) = _; rw [ht]; show (if (fun x : Int32 => decide (x < 0)) x = true then some (tgt, L, st, h) else some (pc + 3, L, st, h)) = _; rw [if_pos (decide_eq_true c)])) (kt c)
  · exact RUN_nx (x := (pc + 3, L, st, h)) hi rfl rfl (e _ (by show (match ptg pc off with | some t => if (fun x : Int32 => decide (x < 0)) x = true then some (t, L, st, h) else some (pc + 3, L, st, h) | none => none) = _; rw [ht]; show (if (fun x : Int32 => decide (x < 0)) x = true then some (tgt, L, st, h) else some (pc + 3, L, st, h)) = _; rw [if_neg (fun z => c (of_decide_eq_true z))])) (kf c)
theorem R_if_ge {x : Int32} {off : Int} (tgt : Nat) (hi : d.2.2.2.2.2.2.2[pc]? = some (some (.ifCond .ge off, 3))) (ht : ptg pc off = some tgt) (kt : 0 ≤ x → RUN d tgt L st h Q) (kf : ¬ (0 ≤ x) → RUN d (pc + 3) L st h Q) : RUN d pc L (.inl x :: st) h Q := by
  have e : ∀ y : PN, sIf (.ifCond .ge off) 3 pc L (.inl x :: st) h = some y → pnext d (.ifCond .ge off) 3 pc L (.inl x :: st) h = some y := fun y hy => pn_if rfl hy
  by_cases c : 0 ≤ x
  · exact RUN_nx (x := (tgt, L, st, h)) hi rfl rfl (e _ (by show (match ptg pc off with | some t => if (fun x : Int32 => decide (0 ≤ x)) x = true then some (t, L, st, h) else some (pc + 3, L, st, h) | none => none) = _; rw [ht]; show (if (fun x : Int32 => decide (0 ≤ x)) x = true then some (tgt, L, st, h) else some (pc + 3, L, st, h)) = _; rw [if_pos (decide_eq_true c)])) (kt c)
  · exact RUN_nx (x := (pc + 3, L, st, h)) hi rfl rfl (e _ (by show (match ptg pc off with | some t => if (fun x : Int32 => decide (0 ≤ x)) x = true then some (t, L, st, h) else some (pc + 3, L, st, h) | none => none) = _; rw [ht]; show (if (fun x : Int32 => decide (0 ≤ x)) x = true then some (tgt, L, st, h) else some (pc + 3, L, st, h)) = _; rw [if_neg (fun z => c (of_decide_eq_true z))])) (kf c)
theorem R_if_gt {x : Int32} {off : Int} (tgt : Nat) (hi : d.2.2.2.2.2.2.2[pc]? = some (some (.ifCond .gt off, 3))) (ht : ptg pc off = some tgt) (kt : 0 < x → RUN d tgt L st h Q) (kf : ¬ (0 < x) → RUN d (pc + 3) L st h Q) : RUN d pc L (.inl x :: st) h Q := by
  have e : ∀ y : PN, sIf (.ifCond .gt off) 3 pc L (.inl x :: st) h = some y → pnext d (.ifCond .gt off) 3 pc L (.inl x :: st) h = some y := fun y hy => pn_if rfl hy
  by_cases c : 0 < x
  · exact RUN_nx (x := (tgt, L, st, h)) hi rfl rfl (e _ (by show (match ptg pc off with | some t => if (fun x : Int32 => decide (0 < x)) x = true then some (t, L, st, h) else some (pc + 3, L, st, h) | none => none) = _; rw [ht]; show (if (fun x : Int32 => decide (0 < x)) x = true then some (tgt, L, st, h) else some (pc + 3, L, st, h)) = _; rw [if_pos (decide_eq_true c)])) (kt c)
  · exact RUN_nx (x := (pc + 3, L, st, h)) hi rfl rfl (e _ (by show (match ptg pc off with | some t => if (fun x : Int32 => decide (0 < x)) x = true then some (t, L, st, h) else some (pc + 3, L, st, h) | none => none) = _; rw [ht]; show (if (fun x : Int32 => decide (0 < x)) x = true then some (tgt, L, st, h) else some (pc + 3, L, st, h)) = _; rw [if_neg (fun z => c (of_decide_eq_true z))])) (kf c)
theorem R_if_le {x : Int32} {off : Int} (tgt : Nat) (hi : d.2.2.2.2.2.2.2[pc]? = some (some (.ifCond .le off, 3))) (ht : ptg pc off = some tgt) (kt : x ≤ 0 → RUN d tgt L st h Q) (kf : ¬ (x ≤ 0) → RUN d (pc + 3) L st h Q) : RUN d pc L (.inl x :: st) h Q := by
  have e : ∀ y : PN, sIf (.ifCond .le off) 3 pc L (.inl x :: st) h = some y → pnext d (.ifCond .le off) 3 pc L (.inl x :: st) h = some y := fun y hy => pn_if rfl hy
  by_cases c : x ≤ 0
  · exact RUN_nx (x := (tgt, L, st, h)) hi rfl rfl (e _ (by show (match ptg pc off with | some t => if (fun x : Int32 => decide (x ≤ 0)) x = true then some (t, L, st, h) else some (pc + 3, L, st, h) | none => none) = _; rw [ht]; show (if (fun x : Int32 => decide (x ≤ 0)) x = true then some (tgt, L, st, h) else some (pc + 3, L, st, h)) = _; rw [if_pos (decide_eq_true c)])) (kt c)
  · exact RUN_nx (x := (pc + 3, L, st, h)) hi rfl rfl (e _ (by show (match ptg pc off with | some t => if (fun x : Int32 => decide (x ≤ 0)) x = true then some (t, L, st, h) else some (pc + 3, L, st, h) | none => none) = _; rw [ht]; show (if (fun x : Int32 => decide (x ≤ 0)) x = true then some (tgt, L, st, h) else some (pc + 3, L, st, h)) = _; rw [if_neg (fun z => c (of_decide_eq_true z))])) (kf c)
theorem R_icmp_eq {x y : Int32} {off : Int} (tgt : Nat) (hi : d.2.2.2.2.2.2.2[pc]? = some (some (.if_icmp .eq off, 3))) (ht : ptg pc off = some tgt) (kt : x = y → RUN d tgt L st h Q) (kf : ¬ (x = y) → RUN d (pc + 3) L st h Q) : RUN d pc L (.inl y :: .inl x :: st) h Q := by
  have e : ∀ z : PN, sCmp (.if_icmp .eq off) 3 pc L (.inl y :: .inl x :: st) h = some z → pnext d (.if_icmp .eq off) 3 pc L (.inl y :: .inl x :: st) h = some z := fun z hy => pn_cmp rfl hy
  by_cases c : x = y
  · exact RUN_nx (x := (tgt, L, st, h)) hi rfl rfl (e _ (by show (match ptg pc off with | some t => if (fun x y : Int32 => decide (x = y)) x y = true then some (t, L, st, h) else some (pc + 3, L, st, h) | none => none) = _; rw [ht]; show (if (fun x y : Int32 => decide (x = y)) x y = true then some (tgt, L, st, h) else some (pc + 3, L, st, h)) = _; rw [if_pos (decide_eq_true c)])) (kt c)
  · exact RUN_nx (x := (pc + 3, L, st, h)) hi rfl rfl (e _ (by show (match ptg pc off with | some t => if (fun x y : Int32 => decide (x = y)) x y = true then some (t, L, st, h) else some (pc + 3, L, st, h) | none => none) = _; rw [ht]; show (if (fun x y : Int32 => decide (x = y)) x y = true then some (tgt, L, st, h) else some (pc + 3, L, st, h)) = _; rw [if_neg (fun z => c (of_decide_eq_true z))])) (kf c)
theorem R_icmp_ne {x y : Int32} {off : Int} (tgt : Nat) (hi : d.2.2.2.2.2.2.2[pc]? = some (some (.if_icmp .ne off, 3))) (ht : ptg pc off = some tgt) (kt : ¬ x = y → RUN d tgt L st h Q) (kf : ¬ (¬ x = y) → RUN d (pc + 3) L st h Q) : RUN d pc L (.inl y :: .inl x :: st) h Q := by
  have e : ∀ z : PN, sCmp (.if_icmp .ne off) 3 pc L (.inl y :: .inl x :: st) h = some z → pnext d (.if_icmp .ne off) 3 pc L (.inl y :: .inl x :: st) h = some z := fun z hy => pn_cmp rfl hy
  by_cases c : ¬ x = y
  · exact RUN_nx (x := (tgt, L, st, h)) hi rfl rfl (e _ (by show (match ptg pc off with | some t => if (fun x y : Int32 => decide (¬ x = y)) x y = true then some (t, L, st, h) else some (pc + 3, L, st, h) | none => none) = _; rw [ht]; show (if (fun x y : Int32 => decide (¬ x = y)) x y = true then some (tgt, L, st, h) else some (pc + 3, L, st, h)) = _; rw [if_pos (decide_eq_true c)])) (kt c)
  · exact RUN_nx (x := (pc + 3, L, st, h)) hi rfl rfl (e _ (by show (match ptg pc off with | some t => if (fun x y : Int32 => decide (¬ x = y)) x y = true then some (t, L, st, h) else some (pc + 3, L, st, h) | none => none) = _; rw [ht]; show (if (fun x y : Int32 => decide (¬ x = y)) x y = true then some (tgt, L, st, h) else some (pc + 3, L, st, h)) = _; rw [if_neg (fun z => c (of_decide_eq_true z))])) (kf c)
theorem R_icmp_lt {x y : Int32} {off : Int} (tgt : Nat) (hi : d.2.2.2.2.2.2.2[pc]? = some (some (.if_icmp .lt off, 3))) (ht : ptg pc off = some tgt) (kt : x < y → RUN d tgt L st h Q) (kf : ¬ (x < y) → RUN d (pc + 3) L st h Q) : RUN d pc L (.inl y :: .inl x :: st) h Q := by
  have e : ∀ z : PN, sCmp (.if_icmp .lt off) 3 pc L (.inl y :: .inl x :: st) h = some z → pnext d (.if_icmp .lt off) 3 pc L (.inl y :: .inl x :: st) h = some z := fun z hy => pn_cmp rfl hy
  by_cases c : x < y
  · exact RUN_nx (x := (tgt, L, st, h)) hi rfl rfl (e _ (by show (match ptg pc off with | some t => if (fun x y : Int32 => decide (x < y)) x y = true then some (t, L, st, h) else some (pc + 3, L, st, h) | none => none) = _; rw [ht]; show (if (fun x y : Int32 => decide (x < y)) x y = true then some (tgt, L, st, h) else some (pc + 3, L, st, h)) = _; rw [if_pos (decide_eq_true c)])) (kt c)
  · exact RUN_nx (x := (pc + 3, L, st, h)) hi rfl rfl (e _ (by show (match ptg pc off with | some t => if (fun x y : Int32 => decide (x < y)) x y = true then some (t, L, st, h) else some (pc + 3, L, st, h) | none => none) = _; rw [ht]; show (if (fun x y : Int32 => decide (x < y)) x y = true then some (tgt, L, st, h) else some (pc + 3, L, st, h)) = _; rw [if_neg (fun z => c (of_decide_eq_true z))])) (kf c)
theorem R_icmp_ge {x y : Int32} {off : Int} (tgt : Nat) (hi : d.2.2.2.2.2.2.2[pc]? = some (some (.if_icmp .ge off, 3))) (ht : ptg pc off = some tgt) (kt : y ≤ x → RUN d tgt L st h Q) (kf : ¬ (y ≤ x) → RUN d (pc + 3) L st h Q) : RUN d pc L (.inl y :: .inl x :: st) h Q := by
  have e : ∀ z : PN, sCmp (.if_icmp .ge off) 3 pc L (.inl y :: .inl x :: st) h = some z → pnext d (.if_icmp .ge off) 3 pc L (.inl y :: .inl x :: st) h = some z := fun z hy => pn_cmp rfl hy
  by_cases c : y ≤ x
  · exact RUN_nx (x := (tgt, L, st, h)) hi rfl rfl (e _ (by show (match ptg pc off with | some t => if (fun x y : Int32 => decide (y ≤ x)) x y = true then some (t, L, st, h) else some (pc + 3, L, st, h) | none => none) = _; rw [ht]; show (if (fun x y : Int32 => decide (y ≤ x)) x y = true then some (tgt, L, st, h) else some (pc + 3, L, st, h)) = _; rw [if_pos (decide_eq_true c)])) (kt c)
  · exact RUN_nx (x := (pc + 3, L, st, h)) hi rfl rfl (e _ (by show (match ptg pc off with | some t => if (fun x y : Int32 => decide (y ≤ x)) x y = true then some (t, L, st, h) else some (pc + 3, L, st, h) | none => none) = _; rw [ht]; show (if (fun x y : Int32 => decide (y ≤ x)) x y = true then some (tgt, L, st, h) else some (pc + 3, L, st, h)) = _; rw [if_neg (fun z => c (of_decide_eq_true z))])) (kf c)
theorem R_icmp_gt {x y : Int32} {off : Int} (tgt : Nat) (hi : d.2.2.2.2.2.2.2[pc]? = some (some (.if_icmp .gt off, 3))) (ht : ptg pc off = some tgt) (kt : y < x → RUN d tgt L st h Q) (kf : ¬ (y < x) → RUN d (pc + 3) L st h Q) : RUN d pc L (.inl y :: .inl x :: st) h Q := by
  have e : ∀ z : PN, sCmp (.if_icmp .gt off) 3 pc L (.inl y :: .inl x :: st) h = some z → pnext d (.if_icmp .gt off) 3 pc L (.inl y :: .inl x :: st) h = some z := fun z hy => pn_cmp rfl hy
  by_cases c : y < x
  · exact RUN_nx (x := (tgt, L, st, h)) hi rfl rfl (e _ (by show (match ptg pc off with | some t => if (fun x y : Int32 => decide (y < x)) x y = true then some (t, L, st, h) else some (pc + 3, L, st, h) | none => none) = _; rw [ht]; show (if (fun x y : Int32 => decide (y < x)) x y = true then some (tgt, L, st, h) else some (pc + 3, L, st, h)) = _; rw [if_pos (decide_eq_true c)])) (kt c)
  · exact RUN_nx (x := (pc + 3, L, st, h)) hi rfl rfl (e _ (by show (match ptg pc off with | some t => if (fun x y : Int32 => decide (y < x)) x y = true then some (t, L, st, h) else some (pc + 3, L, st, h) | none => none) = _; rw [ht]; show (if (fun x y : Int32 => decide (y < x)) x y = true then some (tgt, L, st, h) else some (pc + 3, L, st, h)) = _; rw [if_neg (fun z => c (of_decide_eq_true z))])) (kf c)
theorem R_icmp_le {x y : Int32} {off : Int} (tgt : Nat) (hi : d.2.2.2.2.2.2.2[pc]? = some (some (.if_icmp .le off, 3))) (ht : ptg pc off = some tgt) (kt : x ≤ y → RUN d tgt L st h Q) (kf : ¬ (x ≤ y) → RUN d (pc + 3) L st h Q) : RUN d pc L (.inl y :: .inl x :: st) h Q := by
  have e : ∀ z : PN, sCmp (.if_icmp .le off) 3 pc L (.inl y :: .inl x :: st) h = some z → pnext d (.if_icmp .le off) 3 pc L (.inl y :: .inl x :: st) h = some z := fun z hy => pn_cmp rfl hy
  by_cases c : x ≤ y
  · exact RUN_nx (x := (tgt, L, st, h)) hi rfl rfl (e _ (by show (match ptg pc off with | some t => if (fun x y : Int32 => decide (x ≤ y)) x y = true then some (t, L, st, h) else some (pc + 3, L, st, h) | none => none) = _; rw [ht]; show (if (fun x y : Int32 => decide (x ≤ y)) x y = true then some (tgt, L, st, h) else some (pc + 3, L, st, h)) = _; rw [if_pos (decide_eq_true c)])) (kt c)
  · exact RUN_nx (x := (pc + 3, L, st, h)) hi rfl rfl (e _ (by show (match ptg pc off with | some t => if (fun x y : Int32 => decide (x ≤ y)) x y = true then some (t, L, st, h) else some (pc + 3, L, st, h) | none => none) = _; rw [ht]; show (if (fun x y : Int32 => decide (x ≤ y)) x y = true then some (tgt, L, st, h) else some (pc + 3, L, st, h)) = _; rw [if_neg (fun z => c (of_decide_eq_true z))])) (kf c)
theorem R_goto {off : Int} (tgt : Nat) (hi : d.2.2.2.2.2.2.2[pc]? = some (some (.goto off, 3))) (ht : ptg pc off = some tgt) (k : RUN d tgt L st h Q) : RUN d pc L st h Q := RUN_nx (x := (tgt, L, st, h)) hi rfl rfl (by
  have e : sGo (.goto off) 3 pc L st h = some (tgt, L, st, h) := by
    show (match ptg pc off with | some t => some (t, L, st, h) | none => none) = _
    rw [ht]
  exact pn_go rfl e) k
theorem pn_rd {i : Instr} {n : Nat} {x : PN} (hg : gRdq i = true) (hi : gInv i = none) (e : sRd d i n pc L st h = some x) : pnext d i n pc L st h = some x := by
  unfold gRdq at hg
  split at hg <;> first | cases hg | skip
  all_goals (unfold pnext; rw [e]; rfl)
theorem R_getf_r {idx k ci j t r : Nat} {fs : List PF} (hi : d.2.2.2.2.2.2.2[pc]? = some (some (.getfield idx, 3))) (hf : ftab d.1 idx = some (ci, j, t)) (hs : SH[k]? = some (.inr (.inr (ci, fs)))) (hj : fs[j]? = some (.inl r)) (kk : RUN d (pc + 3) L (.inr (.inr (.inl r)) :: st) h Q) : RUN d pc L (.inr (.inr (.inl k)) :: st) h Q := RUN_nx (x := (pc + 3, L, .inr (.inr (.inl r)) :: st, h)) hi rfl rfl (by
  have e : sRd d (.getfield idx) 3 pc L (.inr (.inr (.inl k)) :: st) h = some (pc + 3, L, .inr (.inr (.inl r)) :: st, h) := by
    have g : gRd d h (.getfield idx) (.inr (.inr (.inl k)) :: st) = some (.inr (.inr (.inl r)), st, 3) := by
      unfold gRd
      dsimp only
      rw [hf, hs]
      dsimp only
      rw [if_pos rfl, hj]
    unfold sRd
    rw [g]
    dsimp only
    rw [if_pos rfl]
  exact pn_rd rfl rfl e) kk
theorem R_getf_i {idx k ci j t : Nat} {fs : List PF} (hi : d.2.2.2.2.2.2.2[pc]? = some (some (.getfield idx, 3))) (hf : ftab d.1 idx = some (ci, j, t)) (hs : SH[k]? = some (.inr (.inr (ci, fs)))) (hj : fs[j]? = some (.inr false)) (kk : RUN d (pc + 3) L (.inl (h.1 k j) :: st) h Q) : RUN d pc L (.inr (.inr (.inl k)) :: st) h Q := RUN_nx (x := (pc + 3, L, .inl (h.1 k j) :: st, h)) hi rfl rfl (by
  have e : sRd d (.getfield idx) 3 pc L (.inr (.inr (.inl k)) :: st) h = some (pc + 3, L, .inl (h.1 k j) :: st, h) := by
    have g : gRd d h (.getfield idx) (.inr (.inr (.inl k)) :: st) = some (.inl (h.1 k j), st, 3) := by
      unfold gRd
      dsimp only
      rw [hf, hs]
      dsimp only
      rw [if_pos rfl, hj]
    unfold sRd
    rw [g]
    dsimp only
    rw [if_pos rfl]
  exact pn_rd rfl rfl e) kk
theorem R_getf_l {idx k ci j t : Nat} {fs : List PF} (hi : d.2.2.2.2.2.2.2[pc]? = some (some (.getfield idx, 3))) (hf : ftab d.1 idx = some (ci, j, t)) (hs : SH[k]? = some (.inr (.inr (ci, fs)))) (hj : fs[j]? = some (.inr true)) (kk : RUN d (pc + 3) L (.inr (.inl (h.2 k j)) :: st) h Q) : RUN d pc L (.inr (.inr (.inl k)) :: st) h Q := RUN_nx (x := (pc + 3, L, .inr (.inl (h.2 k j)) :: st, h)) hi rfl rfl (by
  have e : sRd d (.getfield idx) 3 pc L (.inr (.inr (.inl k)) :: st) h = some (pc + 3, L, .inr (.inl (h.2 k j)) :: st, h) := by
    have g : gRd d h (.getfield idx) (.inr (.inr (.inl k)) :: st) = some (.inr (.inl (h.2 k j)), st, 3) := by
      unfold gRd
      dsimp only
      rw [hf, hs]
      dsimp only
      rw [if_pos rfl, hj]
    unfold sRd
    rw [g]
    dsimp only
    rw [if_pos rfl]
  exact pn_rd rfl rfl e) kk
theorem R_iald {k n : Nat} {i : Int32} (hi : d.2.2.2.2.2.2.2[pc]? = some (some (.iaload, 1))) (hs : SH[k]? = some (.inl (0, n))) (hin : 0 ≤ i.toInt ∧ i.toInt < n) (kk : RUN d (pc + 1) L (.inl (h.1 k i.toNatClampNeg) :: st) h Q) : RUN d pc L (.inl i :: .inr (.inr (.inl k)) :: st) h Q := RUN_nx (x := (pc + 1, L, .inl (h.1 k i.toNatClampNeg) :: st, h)) hi rfl rfl (by
  have e : sRd d (.iaload) 1 pc L (.inl i :: .inr (.inr (.inl k)) :: st) h = some (pc + 1, L, .inl (h.1 k i.toNatClampNeg) :: st, h) := by
    have g : gRd d h (.iaload) (.inl i :: .inr (.inr (.inl k)) :: st) = some (.inl (h.1 k i.toNatClampNeg), st, 1) := by
      unfold gRd
      dsimp only
      rw [hs]
      show (if pin i n = true then some ((Sum.inl (h.1 k i.toNatClampNeg) : PV), st, 1) else none) = _
      rw [if_pos (show pin i n = true from decide_eq_true hin)]
    unfold sRd
    rw [g]
    dsimp only
    rw [if_pos rfl]
  exact pn_rd rfl rfl e) kk
theorem R_bald {k n : Nat} {i : Int32} (hi : d.2.2.2.2.2.2.2[pc]? = some (some (.baload, 1))) (hs : SH[k]? = some (.inl (1, n))) (hin : 0 ≤ i.toInt ∧ i.toInt < n) (kk : RUN d (pc + 1) L (.inl (h.1 k i.toNatClampNeg) :: st) h Q) : RUN d pc L (.inl i :: .inr (.inr (.inl k)) :: st) h Q := RUN_nx (x := (pc + 1, L, .inl (h.1 k i.toNatClampNeg) :: st, h)) hi rfl rfl (by
  have e : sRd d (.baload) 1 pc L (.inl i :: .inr (.inr (.inl k)) :: st) h = some (pc + 1, L, .inl (h.1 k i.toNatClampNeg) :: st, h) := by
    have g : gRd d h (.baload) (.inl i :: .inr (.inr (.inl k)) :: st) = some (.inl (h.1 k i.toNatClampNeg), st, 1) := by
      unfold gRd
      dsimp only
      rw [hs]
      show (if pin i n = true then some ((Sum.inl (h.1 k i.toNatClampNeg) : PV), st, 1) else none) = _
      rw [if_pos (show pin i n = true from decide_eq_true hin)]
    unfold sRd
    rw [g]
    dsimp only
    rw [if_pos rfl]
  exact pn_rd rfl rfl e) kk
theorem R_zald {k n : Nat} {i : Int32} (hi : d.2.2.2.2.2.2.2[pc]? = some (some (.baload, 1))) (hs : SH[k]? = some (.inl (2, n))) (hin : 0 ≤ i.toInt ∧ i.toInt < n) (kk : RUN d (pc + 1) L (.inl (h.1 k i.toNatClampNeg) :: st) h Q) : RUN d pc L (.inl i :: .inr (.inr (.inl k)) :: st) h Q := RUN_nx (x := (pc + 1, L, .inl (h.1 k i.toNatClampNeg) :: st, h)) hi rfl rfl (by
  have e : sRd d (.baload) 1 pc L (.inl i :: .inr (.inr (.inl k)) :: st) h = some (pc + 1, L, .inl (h.1 k i.toNatClampNeg) :: st, h) := by
    have g : gRd d h (.baload) (.inl i :: .inr (.inr (.inl k)) :: st) = some (.inl (h.1 k i.toNatClampNeg), st, 1) := by
      unfold gRd
      dsimp only
      rw [hs]
      show (if pin i n = true then some ((Sum.inl (h.1 k i.toNatClampNeg) : PV), st, 1) else none) = _
      rw [if_pos (show pin i n = true from decide_eq_true hin)]
    unfold sRd
    rw [g]
    dsimp only
    rw [if_pos rfl]
  exact pn_rd rfl rfl e) kk
theorem R_lald {k n : Nat} {i : Int32} (hi : d.2.2.2.2.2.2.2[pc]? = some (some (.laload, 1))) (hs : SH[k]? = some (.inl (3, n))) (hin : 0 ≤ i.toInt ∧ i.toInt < n) (kk : RUN d (pc + 1) L (.inr (.inl (h.2 k i.toNatClampNeg)) :: st) h Q) : RUN d pc L (.inl i :: .inr (.inr (.inl k)) :: st) h Q := RUN_nx (x := (pc + 1, L, .inr (.inl (h.2 k i.toNatClampNeg)) :: st, h)) hi rfl rfl (by
  have e : sRd d (.laload) 1 pc L (.inl i :: .inr (.inr (.inl k)) :: st) h = some (pc + 1, L, .inr (.inl (h.2 k i.toNatClampNeg)) :: st, h) := by
    have g : gRd d h (.laload) (.inl i :: .inr (.inr (.inl k)) :: st) = some (.inr (.inl (h.2 k i.toNatClampNeg)), st, 1) := by
      unfold gRd
      dsimp only
      rw [hs]
      show (if pin i n = true then some ((Sum.inr (Sum.inl (h.2 k i.toNatClampNeg)) : PV), st, 1) else none) = _
      rw [if_pos (show pin i n = true from decide_eq_true hin)]
    unfold sRd
    rw [g]
    dsimp only
    rw [if_pos rfl]
  exact pn_rd rfl rfl e) kk
theorem R_aald {k : Nat} {i : Int32} {rs : List Nat} (r : Nat) (hi : d.2.2.2.2.2.2.2[pc]? = some (some (.aaload, 1))) (hs : SH[k]? = some (.inr (.inl rs))) (hin : 0 ≤ i.toInt ∧ i.toInt < rs.length) (hr : rs.getD i.toNatClampNeg 0 = r) (kk : RUN d (pc + 1) L (.inr (.inr (.inl r)) :: st) h Q) : RUN d pc L (.inl i :: .inr (.inr (.inl k)) :: st) h Q := RUN_nx (x := (pc + 1, L, .inr (.inr (.inl r)) :: st, h)) hi rfl rfl (by
  have e : sRd d (.aaload) 1 pc L (.inl i :: .inr (.inr (.inl k)) :: st) h = some (pc + 1, L, .inr (.inr (.inl r)) :: st, h) := by
    have g : gRd d h (.aaload) (.inl i :: .inr (.inr (.inl k)) :: st) = some (.inr (.inr (.inl r)), st, 1) := by
      unfold gRd
      dsimp only
      rw [hs]
      dsimp only
      rw [if_pos (show pin i rs.length = true from decide_eq_true hin), hr]
    unfold sRd
    rw [g]
    dsimp only
    rw [if_pos rfl]
  exact pn_rd rfl rfl e) kk
theorem R_fact {i : Int32} (hi : d.2.2.2.2.2.2.2[pc]? = some (some (.iaload, 1))) (hin : 0 ≤ i.toInt ∧ i.toInt < (7 : Nat)) (kk : RUN d (pc + 1) L (.inl (pFact i.toNatClampNeg) :: st) h Q) : RUN d pc L (.inl i :: .inr (.inr (.inr 0)) :: st) h Q := RUN_nx (x := (pc + 1, L, .inl (pFact i.toNatClampNeg) :: st, h)) hi rfl rfl (by
  have e : sRd d (.iaload) 1 pc L (.inl i :: .inr (.inr (.inr 0)) :: st) h = some (pc + 1, L, .inl (pFact i.toNatClampNeg) :: st, h) := by
    have g : gRd d h (.iaload) (.inl i :: .inr (.inr (.inr 0)) :: st) = some (.inl (pFact i.toNatClampNeg), st, 1) := by
      show (if pin i 7 = true then some ((Sum.inl (pFact i.toNatClampNeg) : PV), st, 1) else none) = _
      rw [if_pos (show pin i 7 = true from decide_eq_true hin)]
    unfold sRd
    rw [g]
    dsimp only
    rw [if_pos rfl]
  exact pn_rd rfl rfl e) kk
theorem R_ldc_i {idx : Nat} {x : Int32} (hi : d.2.2.2.2.2.2.2[pc]? = some (some (.ldc idx, 2))) (hk : ktab d.1 idx = some (.inl x)) (kk : RUN d (pc + 2) L (.inl x :: st) h Q) : RUN d pc L (st) h Q := RUN_nx (x := (pc + 2, L, .inl x :: st, h)) hi rfl rfl (by
  have e : sRd d (.ldc idx) 2 pc L (st) h = some (pc + 2, L, .inl x :: st, h) := by
    have g : gRd d h (.ldc idx) (st) = some (.inl x, st, 2) := by
      unfold gRd
      dsimp only
      rw [hk]
    unfold sRd
    rw [g]
    dsimp only
    rw [if_pos rfl]
  exact pn_rd rfl rfl e) kk
theorem R_ldcw_i {idx : Nat} {x : Int32} (hi : d.2.2.2.2.2.2.2[pc]? = some (some (.ldc_w idx, 3))) (hk : ktab d.1 idx = some (.inl x)) (kk : RUN d (pc + 3) L (.inl x :: st) h Q) : RUN d pc L (st) h Q := RUN_nx (x := (pc + 3, L, .inl x :: st, h)) hi rfl rfl (by
  have e : sRd d (.ldc_w idx) 3 pc L (st) h = some (pc + 3, L, .inl x :: st, h) := by
    have g : gRd d h (.ldc_w idx) (st) = some (.inl x, st, 3) := by
      unfold gRd
      dsimp only
      rw [hk]
    unfold sRd
    rw [g]
    dsimp only
    rw [if_pos rfl]
  exact pn_rd rfl rfl e) kk
theorem R_ldc_s {idx i : Nat} (hi : d.2.2.2.2.2.2.2[pc]? = some (some (.ldc idx, 2))) (hk : ktab d.1 idx = some (.inr (.inr (.inr (i + 1))))) (kk : RUN d (pc + 2) L (.inr (.inr (.inr (i + 1))) :: st) h Q) : RUN d pc L (st) h Q := RUN_nx (x := (pc + 2, L, .inr (.inr (.inr (i + 1))) :: st, h)) hi rfl rfl (by
  have e : sRd d (.ldc idx) 2 pc L (st) h = some (pc + 2, L, .inr (.inr (.inr (i + 1))) :: st, h) := by
    have g : gRd d h (.ldc idx) (st) = some (.inr (.inr (.inr (i + 1))), st, 2) := by
      unfold gRd
      dsimp only
      rw [hk]
    unfold sRd
    rw [g]
    dsimp only
    rw [if_pos rfl]
  exact pn_rd rfl rfl e) kk
theorem R_ldc2 {idx : Nat} {x : Int64} (hi : d.2.2.2.2.2.2.2[pc]? = some (some (.ldc2_w idx, 3))) (hk : ktab d.1 idx = some (.inr (.inl x))) (kk : RUN d (pc + 3) L (.inr (.inl x) :: st) h Q) : RUN d pc L (st) h Q := RUN_nx (x := (pc + 3, L, .inr (.inl x) :: st, h)) hi rfl rfl (by
  have e : sRd d (.ldc2_w idx) 3 pc L (st) h = some (pc + 3, L, .inr (.inl x) :: st, h) := by
    have g : gRd d h (.ldc2_w idx) (st) = some (.inr (.inl x), st, 3) := by
      unfold gRd
      dsimp only
      rw [hk]
    unfold sRd
    rw [g]
    dsimp only
    rw [if_pos rfl]
  exact pn_rd rfl rfl e) kk
theorem pn_wr {i : Instr} {n : Nat} {x : PN} (hg : gWrq i = true) (e : sWr d i n pc L st h = some x) : pnext d i n pc L st h = some x := by
  unfold gWrq at hg
  split at hg <;> first | cases hg | skip
  all_goals (unfold pnext; rw [e]; rfl)
theorem R_putf_i {idx k ci j : Nat} {fs : List PF} {x : Int32} (hi : d.2.2.2.2.2.2.2[pc]? = some (some (.putfield idx, 3))) (hf : ftab d.1 idx = some (ci, j, 0)) (hs : SH[k]? = some (.inr (.inr (ci, fs)))) (hj : fs[j]? = some (.inr false)) (kk : RUN d (pc + 3) L st (wI h k j x) Q) : RUN d pc L (.inl x :: .inr (.inr (.inl k)) :: st) h Q := RUN_nx (x := (pc + 3, L, st, wI h k j x)) hi rfl rfl (by
  have e : sWr d (.putfield idx) 3 pc L (.inl x :: .inr (.inr (.inl k)) :: st) h = some (pc + 3, L, st, wI h k j x) := by
    have g : gWr d h (.putfield idx) (.inl x :: .inr (.inr (.inl k)) :: st) = some (wI h k j x, st, 3) := by
      unfold gWr
      dsimp only
      rw [hf, hs]
      dsimp only
      rw [if_pos rfl, hj]
      dsimp only
      rw [if_pos (Or.inl rfl)]
      rfl
    unfold sWr
    rw [g]
    dsimp only
    rw [if_pos rfl]
  exact pn_wr rfl e) kk
theorem R_putf_z {idx k ci j : Nat} {fs : List PF} {x : Int32} (hi : d.2.2.2.2.2.2.2[pc]? = some (some (.putfield idx, 3))) (hf : ftab d.1 idx = some (ci, j, 1)) (hs : SH[k]? = some (.inr (.inr (ci, fs)))) (hj : fs[j]? = some (.inr false)) (hx : x = 0 ∨ x = 1) (kk : RUN d (pc + 3) L st (wI h k j x) Q) : RUN d pc L (.inl x :: .inr (.inr (.inl k)) :: st) h Q := RUN_nx (x := (pc + 3, L, st, wI h k j x)) hi rfl rfl (by
  have e : sWr d (.putfield idx) 3 pc L (.inl x :: .inr (.inr (.inl k)) :: st) h = some (pc + 3, L, st, wI h k j x) := by
    have g : gWr d h (.putfield idx) (.inl x :: .inr (.inr (.inl k)) :: st) = some (wI h k j x, st, 3) := by
      unfold gWr
      dsimp only
      rw [hf, hs]
      dsimp only
      rw [if_pos rfl, hj]
      dsimp only
      rw [if_pos (Or.inr ⟨rfl, hx⟩)]
      rfl
    unfold sWr
    rw [g]
    dsimp only
    rw [if_pos rfl]
  exact pn_wr rfl e) kk
theorem R_putf_l {idx k ci j : Nat} {fs : List PF} {x : Int64} (hi : d.2.2.2.2.2.2.2[pc]? = some (some (.putfield idx, 3))) (hf : ftab d.1 idx = some (ci, j, 2)) (hs : SH[k]? = some (.inr (.inr (ci, fs)))) (hj : fs[j]? = some (.inr true)) (kk : RUN d (pc + 3) L st (wL h k j x) Q) : RUN d pc L (.inr (.inl x) :: .inr (.inr (.inl k)) :: st) h Q := RUN_nx (x := (pc + 3, L, st, wL h k j x)) hi rfl rfl (by
  have e : sWr d (.putfield idx) 3 pc L (.inr (.inl x) :: .inr (.inr (.inl k)) :: st) h = some (pc + 3, L, st, wL h k j x) := by
    have g : gWr d h (.putfield idx) (.inr (.inl x) :: .inr (.inr (.inl k)) :: st) = some (wL h k j x, st, 3) := by
      unfold gWr
      dsimp only
      rw [hf, hs]
      dsimp only
      rw [if_pos rfl, hj]
      dsimp only
      rw [if_pos rfl]
      rfl
    unfold sWr
    rw [g]
    dsimp only
    rw [if_pos rfl]
  exact pn_wr rfl e) kk
theorem R_iast {k n : Nat} {i x : Int32} (hi : d.2.2.2.2.2.2.2[pc]? = some (some (.iastore, 1))) (hs : SH[k]? = some (.inl (0, n))) (hin : 0 ≤ i.toInt ∧ i.toInt < n) (kk : RUN d (pc + 1) L st (wI h k i.toNatClampNeg x) Q) : RUN d pc L (.inl x :: .inl i :: .inr (.inr (.inl k)) :: st) h Q := RUN_nx (x := (pc + 1, L, st, wI h k i.toNatClampNeg x)) hi rfl rfl (by
  have e : sWr d (.iastore) 1 pc L (.inl x :: .inl i :: .inr (.inr (.inl k)) :: st) h = some (pc + 1, L, st, wI h k i.toNatClampNeg x) := by
    have g : gWr d h (.iastore) (.inl x :: .inl i :: .inr (.inr (.inl k)) :: st) = some (wI h k i.toNatClampNeg x, st, 1) := by
      unfold gWr
      dsimp only
      rw [hs]
      show (if pin i n = true then some ((rI h.1 k (upd (h.1 k) i.toNatClampNeg x), h.2), st, 1) else none) = _
      rw [if_pos (show pin i n = true from decide_eq_true hin)]
      rfl
    unfold sWr
    rw [g]
    dsimp only
    rw [if_pos rfl]
  exact pn_wr rfl e) kk
theorem R_bast {k n : Nat} {i x : Int32} (hi : d.2.2.2.2.2.2.2[pc]? = some (some (.bastore, 1))) (hs : SH[k]? = some (.inl (1, n))) (hin : 0 ≤ i.toInt ∧ i.toInt < n) (kk : RUN d (pc + 1) L st (wI h k i.toNatClampNeg (vp_nar .byte x)) Q) : RUN d pc L (.inl x :: .inl i :: .inr (.inr (.inl k)) :: st) h Q := RUN_nx (x := (pc + 1, L, st, wI h k i.toNatClampNeg (vp_nar .byte x))) hi rfl rfl (by
  have e : sWr d (.bastore) 1 pc L (.inl x :: .inl i :: .inr (.inr (.inl k)) :: st) h = some (pc + 1, L, st, wI h k i.toNatClampNeg (vp_nar .byte x)) := by
    have g : gWr d h (.bastore) (.inl x :: .inl i :: .inr (.inr (.inl k)) :: st) = some (wI h k i.toNatClampNeg (vp_nar .byte x), st, 1) := by
      unfold gWr
      dsimp only
      rw [hs]
      show (if pin i n = true then some ((rI h.1 k (upd (h.1 k) i.toNatClampNeg (vp_nar .byte x)), h.2), st, 1) else none) = _
      rw [if_pos (show pin i n = true from decide_eq_true hin)]
      rfl
    unfold sWr
    rw [g]
    dsimp only
    rw [if_pos rfl]
  exact pn_wr rfl e) kk
theorem R_zast {k n : Nat} {i x : Int32} (hi : d.2.2.2.2.2.2.2[pc]? = some (some (.bastore, 1))) (hs : SH[k]? = some (.inl (2, n))) (hin : 0 ≤ i.toInt ∧ i.toInt < n) (kk : RUN d (pc + 1) L st (wI h k i.toNatClampNeg (vp_nar .boolean x)) Q) : RUN d pc L (.inl x :: .inl i :: .inr (.inr (.inl k)) :: st) h Q := RUN_nx (x := (pc + 1, L, st, wI h k i.toNatClampNeg (vp_nar .boolean x))) hi rfl rfl (by
  have e : sWr d (.bastore) 1 pc L (.inl x :: .inl i :: .inr (.inr (.inl k)) :: st) h = some (pc + 1, L, st, wI h k i.toNatClampNeg (vp_nar .boolean x)) := by
    have g : gWr d h (.bastore) (.inl x :: .inl i :: .inr (.inr (.inl k)) :: st) = some (wI h k i.toNatClampNeg (vp_nar .boolean x), st, 1) := by
      unfold gWr
      dsimp only
      rw [hs]
      show (if pin i n = true then some ((rI h.1 k (upd (h.1 k) i.toNatClampNeg (vp_nar .boolean x)), h.2), st, 1) else none) = _
      rw [if_pos (show pin i n = true from decide_eq_true hin)]
      rfl
    unfold sWr
    rw [g]
    dsimp only
    rw [if_pos rfl]
  exact pn_wr rfl e) kk
theorem R_last {k n : Nat} {i : Int32} {x : Int64} (hi : d.2.2.2.2.2.2.2[pc]? = some (some (.lastore, 1))) (hs : SH[k]? = some (.inl (3, n))) (hin : 0 ≤ i.toInt ∧ i.toInt < n) (kk : RUN d (pc + 1) L st (wL h k i.toNatClampNeg x) Q) : RUN d pc L (.inr (.inl x) :: .inl i :: .inr (.inr (.inl k)) :: st) h Q := RUN_nx (x := (pc + 1, L, st, wL h k i.toNatClampNeg x)) hi rfl rfl (by
  have e : sWr d (.lastore) 1 pc L (.inr (.inl x) :: .inl i :: .inr (.inr (.inl k)) :: st) h = some (pc + 1, L, st, wL h k i.toNatClampNeg x) := by
    have g : gWr d h (.lastore) (.inr (.inl x) :: .inl i :: .inr (.inr (.inl k)) :: st) = some (wL h k i.toNatClampNeg x, st, 1) := by
      unfold gWr
      dsimp only
      rw [hs]
      show (if pin i n = true then some ((h.1, rL h.2 k (vp_updL (h.2 k) i.toNatClampNeg x)), st, 1) else none) = _
      rw [if_pos (show pin i n = true from decide_eq_true hin)]
      rfl
    unfold sWr
    rw [g]
    dsimp only
    rw [if_pos rfl]
  exact pn_wr rfl e) kk
theorem R_iret {x : Int32} {t : FieldType} (hi : d.2.2.2.2.2.2.2[pc]? = some (some (.ireturn, 1))) (ht : d.2.2.2.2.1 = some t) (hn : narrow t (.int x) = .int x) (hq : Q (some (.inl x)) h) : RUN d pc L [.inl x] h Q := RUN_end (r := some (.inl x)) (by unfold pone; rw [hi]; dsimp only; rw [if_pos rfl, ht]; show (match (if narrow t (.int x) = .int x then some (some (.inl x)) else none : Option (Option PV)) with | some r => _ | none => _) = _; rw [if_pos hn]) hq
theorem R_lret {x : Int64} (hi : d.2.2.2.2.2.2.2[pc]? = some (some (.lreturn, 1))) (ht : d.2.2.2.2.1 = some .long) (hq : Q (some (.inr (.inl x))) h) : RUN d pc L [.inr (.inl x)] h Q := RUN_end (r := some (.inr (.inl x))) (by unfold pone; rw [hi]; dsimp only; rw [if_pos rfl, ht]; rfl) hq
theorem R_aret {x : Nat} {C : String} (hi : d.2.2.2.2.2.2.2[pc]? = some (some (.areturn, 1))) (ht : d.2.2.2.2.1 = some (.object C)) (hq : Q (some (.inr (.inr (.inl x)))) h) : RUN d pc L [.inr (.inr (.inl x))] h Q := RUN_end (r := some (.inr (.inr (.inl x)))) (by unfold pone; rw [hi]; dsimp only; rw [if_pos rfl, ht]; rfl) hq
theorem R_vret (hi : d.2.2.2.2.2.2.2[pc]? = some (some (.return_, 1))) (ht : d.2.2.2.2.1 = none) (hq : Q none h) : RUN d pc L [] h Q := RUN_end (r := none) (by unfold pone; rw [hi]; dsimp only; rw [if_pos rfl, ht]; rfl) hq
theorem R_callV {idx m a : Nat} {d' : PMd} {v : PV} {As rest : List PV} (hi : d.2.2.2.2.2.2.2[pc]? = some (some (.invokevirtual idx, 3))) (hm : mtab d.1 idx = some (0, m, a)) (hp : PP[m]? = some d') (hr : d'.2.2.2.2.2.1 + 1 ≤ d.2.2.2.2.2.1 ∧ 8 + (d'.2.2.2.1 + 11) + d'.2.2.2.2.2.2.1 ≤ d.2.2.2.2.2.2.1) (ha : As.length = a) (hst : st = As.reverse ++ v :: rest) (hv : pclsOf v = some d'.1) (hs : (rest.map pc2).sum ≤ 8) (hl : 1 + (As.map pc2).sum ≤ d'.2.2.2.1) (hc : CALL d' (v :: As) h (fun r h1 => RUN d (pc + 3) L (ppush r rest) h1 Q)) : RUN d pc L st h Q := by
  refine RUN_call (c := (m, v :: As, rest)) ?_ hp hc
  have ht : st.take a = As.reverse := by rw [hst, List.take_left' (by rw [List.length_reverse]; exact ha)]
  have hd : st.drop a = v :: rest := by rw [hst, List.drop_left' (by rw [List.length_reverse]; exact ha)]
  have hn : a ≤ st.length := by rw [hst, List.length_append, List.length_reverse]; omega
  have e : pinv d (.invokevirtual idx) 3 st = some (m, v :: As, rest) := by
    rw [pinv_eq rfl hm hp, if_pos ⟨hr.1, hr.2, hn⟩, if_pos ⟨rfl, rfl⟩, hd]
    dsimp only
    rw [ht, if_pos ⟨hv, hs, by rw [List.map_reverse, List.sum_reverse]; exact hl⟩, List.reverse_reverse]
  unfold pone
  rw [hi]
  dsimp only
  rw [if_neg (by decide)]
  dsimp only
  rw [e]
theorem R_callS {idx m a t : Nat} {d' : PMd} {As rest : List PV} (hi : d.2.2.2.2.2.2.2[pc]? = some (some (.invokestatic idx, 3))) (hm : mtab d.1 idx = some (t, m, a)) (htt : t = 1 ∨ t = 2) (hp : PP[m]? = some d') (hr : d'.2.2.2.2.2.1 + 1 ≤ d.2.2.2.2.2.1 ∧ 8 + (d'.2.2.2.1 + 11) + d'.2.2.2.2.2.2.1 ≤ d.2.2.2.2.2.2.1) (ha : As.length = a) (hst : st = As.reverse ++ rest) (hs : (rest.map pc2).sum ≤ 8) (hl : (As.map pc2).sum ≤ d'.2.2.2.1) (hc : CALL d' As h (fun r h1 => RUN d (pc + 3) L (ppush r rest) h1 Q)) : RUN d pc L st h Q := by
  refine RUN_call (c := (m, As, rest)) ?_ hp hc
  have ht : st.take a = As.reverse := by rw [hst, List.take_left' (by rw [List.length_reverse]; exact ha)]
  have hd : st.drop a = rest := by rw [hst, List.drop_left' (by rw [List.length_reverse]; exact ha)]
  have hn : a ≤ st.length := by rw [hst, List.length_append, List.length_reverse]; omega
  have e : pinv d (.invokestatic idx) 3 st = some (m, As, rest) := by
    rw [pinv_eq rfl hm hp, if_pos ⟨hr.1, hr.2, hn⟩, if_neg (fun z => by cases z.1), if_pos ⟨rfl, htt⟩, hd, ht, if_pos ⟨hs, by rw [List.map_reverse, List.sum_reverse]; exact hl⟩, List.reverse_reverse]
  unfold pone
  rw [hi]
  dsimp only
  rw [if_neg (by decide)]
  dsimp only
  rw [e]
theorem R_nat {idx b a : Nat} {st' : List PV} {h' : PH} (hi : d.2.2.2.2.2.2.2[pc]? = some (some (.invokestatic idx, 3))) (hm : mtab d.1 idx = some (3, b, a)) (hg : gNat b h st = some (st', h')) (hr : (pBn b).1 ≤ d.2.2.2.2.2.1 ∧ (pBn b).2.1 ≤ d.2.2.2.2.2.2.1 ∧ ((st.drop (pBn b).2.2).map pc2).sum ≤ 8) (k : RUN d (pc + 3) L st' h' Q) : RUN d pc L st h Q := by
  have e1 : pinv d (.invokestatic idx) 3 st = none := by
    cases hp : PP[b]? with
    | none => exact pinv_no rfl hm hp
    | some d' =>
      rw [pinv_eq rfl hm hp]
      split
      · rw [if_neg (fun z => by cases z.1), if_neg (fun z => by rcases z.2 with z | z <;> cases z)]
      · rfl
  have e2 : sNat d (.invokestatic idx) 3 pc L st h = some (pc + 3, L, st', h') := by
    rw [sNat_eq rfl hm, if_pos ⟨rfl, rfl⟩, hg]
    dsimp only
    rw [if_pos hr]
  refine RUN_nx (x := (pc + 3, L, st', h')) hi (if_neg (by decide)) e1 ?_ k
  unfold pnext
  rw [e2]
  rfl
end
