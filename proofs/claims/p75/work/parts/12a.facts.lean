/-! what the tables say of the words -/
def tin (w : Cond) (pos : Nat) : Bool := decide (tables_1[pos]? = some w) && goodWord w
theorem tin_TB {w : Cond} {pos : Nat} (h : tin w pos = true) : w ∈ TB := by
  simp only [tin, Bool.and_eq_true, decide_eq_true_eq] at h
  exact TB_t (List.mem_of_getElem? h.1) h.2
def tis (w : Cond) (pos : Nat) : Bool := decide ((k2_sels lw_privs)[pos]? = some w) && goodWord w
theorem tis_TB {w : Cond} {pos : Nat} (h : tis w pos = true) : w ∈ TB := by
  simp only [tis, Bool.and_eq_true, decide_eq_true_eq] at h
  exact TB_s (List.mem_of_getElem? h.1) h.2
def cn (o : Nat) : String := match vwCl[o]? with
  | some q => q.1
  | none => [RJ6, RJ13, RJ0, RJ1, RJ3].getD (o - 10) ""
def ptag (t : Nat) : FieldType := if t = 0 then .int else if t = 1 then .boolean else .long
def fchk (o : Nat) (e : Nat × Nat × Nat × Nat × Nat) : Bool := match vwCl[e.2.1]? with
  | some q => decide (e.2.2.1 < q.2.2) && tin (Cond.fieldLink (cn o) e.1 (q.2.1 e.2.2.1).1 (q.2.1 e.2.2.1).2.1 (q.2.1 e.2.2.1).2.2.1) e.2.2.2.2 && (decide (e.2.2.2.1 = 3) || (decide (parseFieldDescriptor (q.2.1 e.2.2.1).2.2.1 = some (ptag e.2.2.2.1)) && !(q.2.1 e.2.2.1).2.2.2))
  | none => false
def kchk (o : Nat) (e : Nat × PV × Nat) : Bool := match e.2.1 with
  | .inl x => tin (Cond.constant (cn o) e.1 x) e.2.2
  | .inr (.inl x) => tin (Cond.constantLong (cn o) e.1 x) e.2.2
  | _ => true
/-- calls of nest mates: from which owner, by which number -/
def NST : List (Nat × Nat × MethodName) := [(2, 69, yX8_hasBit), (6, 104, yX8_hasBit), (6, 111, yX8_burnsOn), (0, 42, yX8_hasBit)]
def bLink (b : Nat) : MethodName := match b with
  | 0 => Lib.Math.max.name
  | 1 => Lib.Math.min.name
  | 2 => Lib.Math.abs.name
  | 3 => Lib.MathLoose.abs_long.x
  | _ => arraycopyName
def mchk (o : Nat) (e : Nat × Nat × Nat × Nat × Nat × Nat × Nat × Nat × Nat) : Bool :=
  if e.2.1 < 3 then match PP[e.2.2.1]? with
    | some d => decide ((parseMethodDescriptor d.2.1.desc).map (fun q => q.parameters.length) = some e.2.2.2.1) && decide (d.2.1.cls ≠ "java/lang/invoke/MethodHandle") && decide (d.2.1.cls ≠ "java/lang/invoke/VarHandle") && tin (Cond.initialized d.2.1.cls) e.2.2.2.2.2.2.2.2 &&
      (if e.2.1 = 0 then tin (Cond.methodLink (cn o) e.1 d.2.1) e.2.2.2.2.1 && tin (Cond.instanceMethod d.2.1) e.2.2.2.2.2.1 && (if e.2.2.2.2.2.2.1 = 1 then tis (Cond.selects d.2.1.cls d.2.1 d.2.1) e.2.2.2.2.2.2.2.1 else tin (Cond.selects d.2.1.cls d.2.1 d.2.1) e.2.2.2.2.2.2.2.1)
       else if e.2.1 = 1 then tin (Cond.methodLink (cn o) e.1 d.2.1) e.2.2.2.2.1 && tin (Cond.static d.2.1) e.2.2.2.2.2.1
       else tin (Cond.static d.2.1) e.2.2.2.2.2.1 && decide ((o, e.1, d.2.1) ∈ NST))
    | none => false
  else tin (Cond.methodLink (cn o) e.1 (bLink e.2.2.1)) e.2.2.2.2.1
def dchk (q : PMd × Nat) : Bool := plainName q.1.2.1.cls && decide (q.1.2.1.cls = cn q.1.1) && tin (Cond.code q.1.2.1 q.1.2.2.1 q.1.2.2.2.1 q.1.2.2.2.2.1) q.2
set_option maxRecDepth 1000000 in
theorem FTB_ok : (FTB.zipIdx.all (fun l => l.1.all (fchk l.2))) = true := by decide +kernel
set_option maxRecDepth 1000000 in
theorem KTB_ok : (KTB.zipIdx.all (fun l => l.1.all (kchk l.2))) = true := by decide +kernel
