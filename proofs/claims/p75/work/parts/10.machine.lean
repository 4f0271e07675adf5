/-! A machine of plain values: what the bytecode of both objects does to numbers, longs, cells by their places. Its steps are the machine's own (part 11). -/
def pc2 : PV → Nat
  | .inr (.inl _) => 2
  | _ => 1
def pget : PL → Nat → Option PV
  | [], _ => none
  | q :: L, i => if q.1 = i then some q.2 else pget L i
def pset1 (L : PL) (i : Nat) (v : PV) : PL := (i, v) :: L.filter (fun q => !(q.1 == i) && !(q.1 + 1 == i && pc2 q.2 == 2))
def pset2 (L : PL) (i : Nat) (v : PV) : PL := (i, v) :: L.filter (fun q => !(q.1 == i) && (!(q.1 == i + 1) && !(q.1 + 1 == i && pc2 q.2 == 2)))
def pargs : Nat → List PV → PL
  | _, [] => []
  | i, v :: vs => (i, v) :: pargs (if pc2 v = 2 then i + 2 else i + 1) vs
def rI (f : Nat → Nat → Int32) (k : Nat) (g : Nat → Int32) : Nat → Nat → Int32 := fun a => if a = k then g else f a
def rL (f : Nat → Nat → Int64) (k : Nat) (g : Nat → Int64) : Nat → Nat → Int64 := fun a => if a = k then g else f a
def pin (i : Int32) (n : Nat) : Bool := decide (0 ≤ i.toInt ∧ i.toInt < n)
/-! instructions, by groups -/
def gBin : Instr → Option (Int32 → Int32 → Option Int32)
  | .iadd => some (fun x y => some (x + y))
  | .isub => some (fun x y => some (x - y))
  | .imul => some (fun x y => some (x * y))
  | .iand => some (fun x y => some (x &&& y))
  | .ior => some (fun x y => some (x ||| y))
  | .ixor => some (fun x y => some (x ^^^ y))
  | .ishl => some (fun x y => some (x <<< (y &&& 31)))
  | .ishr => some (fun x y => some (x >>> (y &&& 31)))
  | .iushr => some (fun x y => some ((x.toUInt32 >>> (y.toUInt32 &&& Int32.toUInt32 31)).toInt32))
  | .idiv => some (fun x y => if y = 0 then none else some (x / y))
  | .irem => some (fun x y => if y = 0 then none else some (x - x / y * y))
  | _ => none
def gBinL : Instr → Option (Int64 → Int64 → Option Int64)
  | .ladd => some (fun x y => some (x + y))
  | .lsub => some (fun x y => some (x - y))
  | .lmul => some (fun x y => some (x * y))
  | .land => some (fun x y => some (x &&& y))
  | .lor => some (fun x y => some (x ||| y))
  | .ldiv => some (fun x y => if y = 0 then none else some (x / y))
  | .lrem => some (fun x y => if y = 0 then none else some (x - x / y * y))
  | _ => none
def gShL : Instr → Option (Int64 → Int32 → Int64)
  | .lshl => some (fun x y => x <<< (y.toInt64 &&& 63))
  | .lshr => some (fun x y => x >>> (y.toInt64 &&& 63))
  | .lushr => some (fun x y => (x.toUInt64 >>> (y.toInt64.toUInt64 &&& Int64.toUInt64 63)).toInt64)
  | _ => none
def gUn : Instr → Option (Int32 → Int32)
  | .ineg => some (fun x => -x)
  | .i2b => some (fun x => x.toInt8.toInt32)
  | .i2s => some (fun x => x.toInt16.toInt32)
  | .i2c => some (fun x => (x.toUInt32 % 65536).toInt32)
  | _ => none
/-- the stack alone, one byte -/
def gStk : Instr → List PV → Option (List PV)
  | .i2l, .inl x :: st => some (.inr (.inl x.toInt64) :: st)
  | .l2i, .inr (.inl x) :: st => some (.inl x.toInt32 :: st)
  | .lneg, .inr (.inl x) :: st => some (.inr (.inl (-x)) :: st)
  | .lcmp, .inr (.inl y) :: .inr (.inl x) :: st => some (.inl (lg_cmp x y) :: st)
  | .dup, v :: st => if pc2 v = 1 then some (v :: v :: st) else none
  | .pop, v :: st => if pc2 v = 1 then some st else none
  | .pop2, v :: st => if pc2 v = 2 then some st else none
  | .dup2, v :: w :: st => if pc2 v = 1 ∧ pc2 w = 1 then some (v :: w :: v :: w :: st) else none
  | _, _ => none
def gCon : Instr → Option (PV × Nat)
  | .iconst n => some (.inl (Int32.ofInt n), 1)
  | .bipush n => some (.inl (Int8.ofInt n).toInt32, 2)
  | .sipush n => some (.inl (Int16.ofInt n).toInt32, 3)
  | .lconst n => some (.inr (.inl (Int64.ofNat (n : Nat))), 1)
  | _ => none
/-- place, kind (0 int, 1 long, 2 cell), length -/
def gLd : Instr → Option (Nat × Nat × Nat)
  | .iload_n k => some ((k : Nat), 0, 1)
  | .iload i => some (i, 0, 2)
  | .lload_n k => some ((k : Nat), 1, 1)
  | .lload i => some (i, 1, 2)
  | .aload_n k => some ((k : Nat), 2, 1)
  | .aload i => some (i, 2, 2)
  | _ => none
def gSt : Instr → Option (Nat × Nat × Nat)
  | .istore_n k => some ((k : Nat), 0, 1)
  | .istore i => some (i, 0, 2)
  | .lstore_n k => some ((k : Nat), 1, 1)
  | .lstore i => some (i, 1, 2)
  | .astore_n k => some ((k : Nat), 2, 1)
  | .astore i => some (i, 2, 2)
  | _ => none
def pkind : PV → Nat
  | .inl _ => 0
  | .inr (.inl _) => 1
  | .inr (.inr _) => 2
def gIf : Instr → Option ((Int32 → Bool) × Int)
  | .ifCond .eq off => some (fun x => decide (x = 0), off)
  | .ifCond .ne off => some (fun x => decide (¬ x = 0), off)
  | .ifCond .lt off => some (fun x => decide (x < 0), off)
  | .ifCond .ge off => some (fun x => decide (0 ≤ x), off)
  | .ifCond .gt off => some (fun x => decide (0 < x), off)
  | .ifCond .le off => some (fun x => decide (x ≤ 0), off)
  | _ => none
def gCmp : Instr → Option ((Int32 → Int32 → Bool) × Int)
  | .if_icmp .eq off => some (fun x y => decide (x = y), off)
  | .if_icmp .ne off => some (fun x y => decide (¬ x = y), off)
  | .if_icmp .lt off => some (fun x y => decide (x < y), off)
  | .if_icmp .ge off => some (fun x y => decide (y ≤ x), off)
  | .if_icmp .gt off => some (fun x y => decide (y < x), off)
  | .if_icmp .le off => some (fun x y => decide (x ≤ y), off)
  | _ => none
def ptg (pc : Nat) (off : Int) : Option Nat := match (pc : Int) + off with
  | .ofNat t => some t
  | .negSucc _ => none
/-- reads: what lies at a cell's place -/
def gRd (d : PMd) (h : PH) : Instr → List PV → Option (PV × List PV × Nat)
  | .getfield idx, .inr (.inr (.inl k)) :: st => match ftab d.1 idx, SH[k]? with
    | some (ci, j, _), some (.inr (.inr (ci', fs))) => if ci' = ci then match fs[j]? with
        | some (.inl r) => some (.inr (.inr (.inl r)), st, 3)
        | some (.inr false) => some (.inl (h.1 k j), st, 3)
        | some (.inr true) => some (.inr (.inl (h.2 k j)), st, 3)
        | none => none
      else none
    | _, _ => none
  | .iaload, .inl i :: .inr (.inr (.inl k)) :: st => match SH[k]? with
    | some (.inl (0, n)) => if pin i n then some (.inl (h.1 k i.toNatClampNeg), st, 1) else none
    | _ => none
  | .getfield idx, .inr (.inr (.inr (i + 1))) :: st => if d.1 = 12 ∧ i < pStrs.length then (if idx = 9 then some (.inr (.inr (.inr (i + 15))), st, 3) else if idx = 15 then some (.inl 0, st, 3) else none) else none
  | .arraylength, .inr (.inr (.inr k)) :: st => if 15 ≤ k ∧ k - 15 < pStrs.length then some (.inl (Int32.ofNat (pStrs.getD (k - 15) []).length), st, 1) else none
  | .iaload, .inl i :: .inr (.inr (.inr 0)) :: st => if pin i 7 then some (.inl (pFact i.toNatClampNeg), st, 1) else none
  | .baload, .inl i :: .inr (.inr (.inl k)) :: st => match SH[k]? with
    | some (.inl (1, n)) => if pin i n then some (.inl (h.1 k i.toNatClampNeg), st, 1) else none
    | some (.inl (2, n)) => if pin i n then some (.inl (h.1 k i.toNatClampNeg), st, 1) else none
    | _ => none
  | .baload, .inl i :: .inr (.inr (.inr k)) :: st => if 15 ≤ k ∧ k - 15 < pStrs.length ∧ pin i (pStrs.getD (k - 15) []).length then some (.inl ((pStrs.getD (k - 15) []).getD i.toNatClampNeg 0), st, 1) else none
  | .laload, .inl i :: .inr (.inr (.inl k)) :: st => match SH[k]? with
    | some (.inl (3, n)) => if pin i n then some (.inr (.inl (h.2 k i.toNatClampNeg)), st, 1) else none
    | _ => none
  | .aaload, .inl i :: .inr (.inr (.inl k)) :: st => match SH[k]? with
    | some (.inr (.inl rs)) => if pin i rs.length then some (.inr (.inr (.inl (rs.getD i.toNatClampNeg 0))), st, 1) else none
    | _ => none
  | .ldc idx, st => match ktab d.1 idx with
    | some (.inl x) => some (.inl x, st, 2)
    | some (.inr (.inr (.inr (i + 1)))) => some (.inr (.inr (.inr (i + 1))), st, 2)
    | _ => none
  | .ldc_w idx, st => match ktab d.1 idx with
    | some (.inl x) => some (.inl x, st, 3)
    | _ => none
  | .ldc2_w idx, st => match ktab d.1 idx with
    | some (.inr (.inl x)) => some (.inr (.inl x), st, 3)
    | _ => none
  | .getstatic idx, st => if d.1 = 8 ∧ idx = pFactIdx then some (.inr (.inr (.inr 0)), st, 3) else if d.1 = 12 ∧ idx = 38 then some (.inl 1, st, 3) else if d.1 = 12 ∧ idx = 1053 then some (.inr (.inr (.inr 40)), st, 3) else none
  | _, _ => none
/-- writes -/
def gWr (d : PMd) (h : PH) : Instr → List PV → Option (PH × List PV × Nat)
  | .putfield idx, v :: .inr (.inr (.inl k)) :: st => match ftab d.1 idx, SH[k]? with
    | some (ci, j, t), some (.inr (.inr (ci', fs))) => if ci' = ci then match fs[j]?, v with
        | some (.inr false), .inl x => if t = 0 ∨ (t = 1 ∧ (x = 0 ∨ x = 1)) then some ((rI h.1 k (upd (h.1 k) j x), h.2), st, 3) else none
        | some (.inr true), .inr (.inl x) => if t = 2 then some ((h.1, rL h.2 k (vp_updL (h.2 k) j x)), st, 3) else none
        | _, _ => none
      else none
    | _, _ => none
  | .iastore, .inl x :: .inl i :: .inr (.inr (.inl k)) :: st => match SH[k]? with
    | some (.inl (0, n)) => if pin i n then some ((rI h.1 k (upd (h.1 k) i.toNatClampNeg x), h.2), st, 1) else none
    | _ => none
  | .bastore, .inl x :: .inl i :: .inr (.inr (.inl k)) :: st => match SH[k]? with
    | some (.inl (1, n)) => if pin i n then some ((rI h.1 k (upd (h.1 k) i.toNatClampNeg (vp_nar .byte x)), h.2), st, 1) else none
    | some (.inl (2, n)) => if pin i n then some ((rI h.1 k (upd (h.1 k) i.toNatClampNeg (vp_nar .boolean x)), h.2), st, 1) else none
    | _ => none
  | .lastore, .inr (.inl x) :: .inl i :: .inr (.inr (.inl k)) :: st => match SH[k]? with
    | some (.inl (3, n)) => if pin i n then some ((h.1, rL h.2 k (vp_updL (h.2 k) i.toNatClampNeg x)), st, 1) else none
    | _ => none
  | _, _ => none
def pIsObj : FieldType → Bool
  | .object _ => true
  | _ => false
/-- ends -/
def gRet (ret : Option FieldType) : Instr → List PV → Option (Option PV)
  | .ireturn, [.inl x] => match ret with
    | some t => if narrow t (.int x) = .int x then some (some (.inl x)) else none
    | none => none
  | .lreturn, [.inr (.inl x)] => if ret = some .long then some (some (.inr (.inl x))) else none
  | .areturn, [.inr (.inr (.inl k))] => if ret.any pIsObj then some (some (.inr (.inr (.inl k)))) else none
  | .return_, [] => if ret = none then some none else none
  | _, _ => none
/-- calls of the JDK, by number -/
def gInv : Instr → Option (Nat × Bool)
  | .invokevirtual idx => some (idx, true)
  | .invokestatic idx => some (idx, false)
  | _ => none
def pclsOf : PV → Option Nat
  | .inr (.inr (.inl k)) => match SH[k]? with
    | some (.inr (.inr (ci, _))) => some ci
    | _ => none
  | .inr (.inr (.inr k)) => if 1 ≤ k ∧ k ≤ pStrs.length then some 12 else none
  | _ => none
def pok : PV → Bool
  | .inr (.inr (.inr k)) => decide (k < 29)
  | _ => true
def gCopy (h : PH) : List PV → Option (List PV × PH)
  | .inl n :: .inl dp :: .inr (.inr (.inl k)) :: .inl sp :: .inr (.inr (.inl q)) :: st => if 0 ≤ sp.toInt ∧ 0 ≤ dp.toInt ∧ 0 ≤ n.toInt then match SH[q]?, SH[k]? with
      | some (.inl (0, m0)), some (.inl (0, m1)) => if sp.toInt + n.toInt ≤ m0 ∧ dp.toInt + n.toInt ≤ m1 then some (st, (rI h.1 k (va_cpy (h.1 q) (h.1 k) sp.toNatClampNeg dp.toNatClampNeg n.toNatClampNeg), h.2)) else none
      | some (.inl (3, m0)), some (.inl (3, m1)) => if sp.toInt + n.toInt ≤ m0 ∧ dp.toInt + n.toInt ≤ m1 then some (st, (h.1, rL h.2 k (va_cpy (h.2 q) (h.2 k) sp.toNatClampNeg dp.toNatClampNeg n.toNatClampNeg))) else none
      | _, _ => none
    else none
  | _ => none
def gMath (b : Nat) (h : PH) (st : List PV) : Option (List PV × PH) := match b, st with
  | 0, .inl y :: .inl x :: st => some (.inl (if x < y then y else x) :: st, h)
  | 1, .inl y :: .inl x :: st => some (.inl (if y < x then y else x) :: st, h)
  | 2, .inl x :: st => some (.inl (if 0 ≤ x then x else 0 - x) :: st, h)
  | 3, .inr (.inl x) :: st => some (.inr (.inl (if 0 < x then x else -x)) :: st, h)
  | _, _ => none
def gNat (b : Nat) (h : PH) (st : List PV) : Option (List PV × PH) := if b = 6 then gCopy h st else gMath b h st
/-! one step that stays in the method -/
abbrev PN : Type := Nat × PL × List PV × PH
def sBin (i : Instr) (n pc : Nat) (L : PL) (st : List PV) (h : PH) : Option PN := match gBin i, n, st with
  | some f, 1, .inl y :: .inl x :: st => match f x y with
    | some z => some (pc + 1, L, .inl z :: st, h)
    | none => none
  | _, _, _ => none
def sBinL (i : Instr) (n pc : Nat) (L : PL) (st : List PV) (h : PH) : Option PN := match gBinL i, n, st with
  | some f, 1, .inr (.inl y) :: .inr (.inl x) :: st => match f x y with
    | some z => some (pc + 1, L, .inr (.inl z) :: st, h)
    | none => none
  | _, _, _ => none
def sShL (i : Instr) (n pc : Nat) (L : PL) (st : List PV) (h : PH) : Option PN := match gShL i, n, st with
  | some f, 1, .inl y :: .inr (.inl x) :: st => some (pc + 1, L, .inr (.inl (f x y)) :: st, h)
  | _, _, _ => none
def sUn (i : Instr) (n pc : Nat) (L : PL) (st : List PV) (h : PH) : Option PN := match gUn i, n, st with
  | some f, 1, .inl x :: st => some (pc + 1, L, .inl (f x) :: st, h)
  | _, _, _ => none
def sStk (i : Instr) (n pc : Nat) (L : PL) (st : List PV) (h : PH) : Option PN := match gStk i st, n with
  | some st, 1 => some (pc + 1, L, st, h)
  | _, _ => none
def sCon (i : Instr) (n pc : Nat) (L : PL) (st : List PV) (h : PH) : Option PN := match gCon i with
  | some (v, m) => if m = n then some (pc + n, L, v :: st, h) else none
  | none => none
def sLd (i : Instr) (n pc : Nat) (L : PL) (st : List PV) (h : PH) : Option PN := match gLd i with
  | some (k, t, m) => match pget L k with
    | some v => if m = n ∧ pkind v = t ∧ pok v = true then some (pc + n, L, v :: st, h) else none
    | none => none
  | none => none
def pwid (t : Nat) : Nat := if t = 1 then 0 else 1
def pstore (t : Nat) (L : PL) (k : Nat) (v : PV) : PL := if t = 1 then pset2 L k v else pset1 L k v
def sSt (maxL : Nat) (i : Instr) (n pc : Nat) (L : PL) (st : List PV) (h : PH) : Option PN := match gSt i, st with
  | some (k, t, m), v :: st => if m = n ∧ (pkind v = t ∧ pok v = true) ∧ k + 1 < maxL + pwid t then some (pc + n, pstore t L k v, st, h) else none
  | _, _ => none
def sInc (maxL : Nat) (i : Instr) (n pc : Nat) (L : PL) (st : List PV) (h : PH) : Option PN := match i, n with
  | .iinc k z, 3 => match pget L k with
    | some (.inl x) => if k < maxL then some (pc + 3, pset1 L k (.inl (x + Int32.ofInt z)), st, h) else none
    | _ => none
  | _, _ => none
def sIf (i : Instr) (n pc : Nat) (L : PL) (st : List PV) (h : PH) : Option PN := match gIf i, n, st with
  | some (f, off), 3, .inl x :: st => match ptg pc off with
    | some t => if f x then some (t, L, st, h) else some (pc + 3, L, st, h)
    | none => none
  | _, _, _ => none
def sCmp (i : Instr) (n pc : Nat) (L : PL) (st : List PV) (h : PH) : Option PN := match gCmp i, n, st with
  | some (f, off), 3, .inl y :: .inl x :: st => match ptg pc off with
    | some t => if f x y then some (t, L, st, h) else some (pc + 3, L, st, h)
    | none => none
  | _, _, _ => none
def sGo (i : Instr) (n pc : Nat) (L : PL) (st : List PV) (h : PH) : Option PN := match i, n, st with
  | .goto off, 3, st => match ptg pc off with
    | some t => some (t, L, st, h)
    | none => none
  | .tableswitch dflt lo hi offs, _, .inl x :: st => if x.toInt < lo ∨ hi < x.toInt then match ptg pc dflt with
      | some t => some (t, L, st, h)
      | none => none
    else match offs[(x.toInt - lo).toNat]? with
      | some off => match ptg pc off with
        | some t => some (t, L, st, h)
        | none => none
      | none => none
  | _, _, _ => none
def sRd (d : PMd) (i : Instr) (n pc : Nat) (L : PL) (st : List PV) (h : PH) : Option PN := match gRd d h i st with
  | some (v, st, m) => if m = n then some (pc + n, L, v :: st, h) else none
  | none => none
def sWr (d : PMd) (i : Instr) (n pc : Nat) (L : PL) (st : List PV) (h : PH) : Option PN := match gWr d h i st with
  | some (h, st, m) => if m = n then some (pc + n, L, st, h) else none
  | none => none
/-- the JDK's own -/
def sNat (d : PMd) (i : Instr) (n pc : Nat) (L : PL) (st : List PV) (h : PH) : Option PN := match gInv i, n with
  | some (idx, vt), 3 => match mtab d.1 idx with
    | some (t, b, _) => if t = 3 ∧ vt = false then match gNat b h st with
        | some (st', h') => if (pBn b).1 ≤ d.2.2.2.2.2.1 ∧ (pBn b).2.1 ≤ d.2.2.2.2.2.2.1 ∧ ((st.drop (pBn b).2.2).map pc2).sum ≤ 8 then some (pc + 3, L, st', h') else none
        | none => none
      else none
    | none => none
  | _, _ => none
def pnext (d : PMd) (i : Instr) (n pc : Nat) (L : PL) (st : List PV) (h : PH) : Option PN :=
  (sBin i n pc L st h).or ((sBinL i n pc L st h).or ((sShL i n pc L st h).or ((sUn i n pc L st h).or ((sStk i n pc L st h).or ((sCon i n pc L st h).or
  ((sIf i n pc L st h).or ((sCmp i n pc L st h).or ((sGo i n pc L st h).or ((sRd d i n pc L st h).or ((sWr d i n pc L st h).or ((sNat d i n pc L st h).or
  ((sLd i n pc L st h).or ((sSt d.2.2.2.1 i n pc L st h).or (sInc d.2.2.2.1 i n pc L st h))))))))))))))
/-- a call of our own: who, with what, what stays -/
def pinv (d : PMd) (i : Instr) (n : Nat) (st : List PV) : Option (Nat × List PV × List PV) := match gInv i, n with
  | some (idx, vt), 3 => match mtab d.1 idx with
    | some (t, m, a) => match PP[m]? with
      | some d' => if d'.2.2.2.2.2.1 + 1 ≤ d.2.2.2.2.2.1 ∧ 8 + (d'.2.2.2.1 + 11) + d'.2.2.2.2.2.2.1 ≤ d.2.2.2.2.2.2.1 ∧ a ≤ st.length then
          if vt = true ∧ t = 0 then match st.drop a with
            | v :: rest => if pclsOf v = some d'.1 ∧ (rest.map pc2).sum ≤ 8 ∧ 1 + ((st.take a).map pc2).sum ≤ d'.2.2.2.1 then some (m, v :: (st.take a).reverse, rest) else none
            | [] => none
          else if vt = false ∧ (t = 1 ∨ t = 2) then if ((st.drop a).map pc2).sum ≤ 8 ∧ ((st.take a).map pc2).sum ≤ d'.2.2.2.1 then some (m, (st.take a).reverse, st.drop a) else none
          else none
        else none
      | none => none
    | none => none
  | _, _ => none
def ppush (r : Option PV) (st : List PV) : List PV := r.toList ++ st
abbrev PO : Type := PN ⊕ (Nat × List PV × List PV) ⊕ Option PV
/-- one step: on, a call, an end -/
def pone (d : PMd) (pc : Nat) (L : PL) (st : List PV) (h : PH) : Option PO := match d.2.2.2.2.2.2.2[pc]? with
  | some (some (i, n)) => match (if n = 1 then gRet d.2.2.2.2.1 i st else none) with
    | some r => some (.inr (.inr r))
    | none => match pinv d i n st with
      | some c => some (.inr (.inl c))
      | none => match pnext d i n pc L st h with
        | some x => some (.inl x)
        | none => none
  | _ => none
def pbody (R : PMd → Nat → PL → List PV → PH → Option (Option PV × PH)) (d : PMd) (pc : Nat) (L : PL) (st : List PV) (h : PH) : Option (Option PV × PH) := match pone d pc L st h with
  | some (.inl x) => R d x.1 x.2.1 x.2.2.1 x.2.2.2
  | some (.inr (.inl c)) => match PP[c.1]? with
    | some d' => match R d' 0 (pargs 0 c.2.1) [] h with
      | some y => R d (pc + 3) L (ppush y.1 c.2.2) y.2
      | none => none
    | none => none
  | some (.inr (.inr r)) => some (r, h)
  | none => none
def prun : Nat → PMd → Nat → PL → List PV → PH → Option (Option PV × PH)
  | 0 => fun _ _ _ _ _ => none
  | f + 1 => pbody (prun f)
