/-! what the tables say of the words -/
def tin (w : Cond) (pos : Nat) : Bool := decide (tables_1[pos]? = some w) && goodWord w
theorem tin_TB {w : Cond} {pos : Nat} (h : tin w pos = true) : w ∈ TB := by
  simp only [tin, Bool.and_eq_true, decide_eq_true_eq] at h
  exact TB_t (List.mem_of_getElem? h.1) h.2
def tis (w : Cond) (pos : Nat) : Bool := decide ((k2_sels lw_privs)[pos]? = some w) && goodWord w
theorem tis_TB {w : Cond} {pos : Nat} (h : tis w pos = true) : w ∈ TB := by
  simp only [tis, Bool.and_eq_true, decide_eq_true_eq] at h
  exact TB_s (List.mem_of_getElem? h.1) h.2
def cn (o : Nat) : String := match vwCl[o]? with
  | some q => q.1
  | none => [RJ6, RJ13, RJ0, RJ1, RJ3].getD (o - 10) ""
def ptag (t : Nat) : FieldType := if t = 0 then .int else if t = 1 then .boolean else .long
def fchk (o : Nat) (e : Nat × Nat × Nat × Nat × Nat) : Bool := match vwCl[e.2.1]? with
  | some q => decide (e.2.2.1 < q.2.2) && tin (Cond.fieldLink (cn o) e.1 (q.2.1 e.2.2.1).1 (q.2.1 e.2.2.1).2.1 (q.2.1 e.2.2.1).2.2.1) e.2.2.2.2 && (decide (e.2.2.2.1 = 3) || (decide (parseFieldDescriptor (q.2.1 e.2.2.1).2.2.1 = some (ptag e.2.2.2.1)) && !(q.2.1 e.2.2.1).2.2.2))
  | none => false
def kchk (o : Nat) (e : Nat × PV × Nat) : Bool := match e.2.1 with
  | .inl x => tin (Cond.constant (cn o) e.1 x) e.2.2
  | .inr (.inl x) => tin (Cond.constantLong (cn o) e.1 x) e.2.2
  | _ => true
/-- calls of nest mates: from which class, by which number -/
def NST : List (Nat × Nat × MethodName) := [(2, 69, yX8_hasBit), (6, 104, yX8_hasBit), (6, 111, yX8_burnsOn), (0, 42, yX8_hasBit)]
def bLink (b : Nat) : MethodName := match b with
  | 0 => Lib.Math.max.name
  | 1 => Lib.Math.min.name
  | 2 => Lib.Math.abs.name
  | 3 => Lib.MathLoose.abs_long.x
  | _ => arraycopyName
def mchk (o : Nat) (e : Nat × Nat × Nat × Nat × Nat × Nat × Nat × Nat × Nat) : Bool :=
  if e.2.1 < 3 then match PP[e.2.2.1]? with
    | some d => decide ((parseMethodDescriptor d.2.1.desc).map (fun q => q.parameters.length) = some e.2.2.2.1) && decide (d.2.1.cls ≠ "java/lang/invoke/MethodHandle") && decide (d.2.1.cls ≠ "java/lang/invoke/VarHandle") && tin (Cond.initialized d.2.1.cls) e.2.2.2.2.2.2.2.2 &&
      (if e.2.1 = 0 then tin (Cond.methodLink (cn o) e.1 d.2.1) e.2.2.2.2.1 && tin (Cond.instanceMethod d.2.1) e.2.2.2.2.2.1 && (if e.2.2.2.2.2.2.1 = 1 then tis (Cond.selects d.2.1.cls d.2.1 d.2.1) e.2.2.2.2.2.2.2.1 else tin (Cond.selects d.2.1.cls d.2.1 d.2.1) e.2.2.2.2.2.2.2.1)
       else if e.2.1 = 1 then tin (Cond.methodLink (cn o) e.1 d.2.1) e.2.2.2.2.1 && tin (Cond.static d.2.1) e.2.2.2.2.2.1
       else tin (Cond.static d.2.1) e.2.2.2.2.2.1 && decide ((o, e.1, d.2.1) ∈ NST))
    | none => false
  else tin (Cond.methodLink (cn o) e.1 (bLink e.2.2.1)) e.2.2.2.2.1
def dchk (q : PMd × Nat) : Bool := plainName q.1.2.1.cls && decide (q.1.2.1.cls = cn q.1.1) && tin (Cond.code q.1.2.1 q.1.2.2.1 q.1.2.2.2.1 q.1.2.2.2.2.1) q.2
set_option maxRecDepth 1000000 in
theorem FTB_ok : (FTB.zipIdx.all (fun l => l.1.all (fchk l.2))) = true := by decide +kernel
set_option maxRecDepth 1000000 in
theorem KTB_ok : (KTB.zipIdx.all (fun l => l.1.all (kchk l.2))) = true := by decide +kernel
set_option maxRecDepth 1000000 in
theorem MTB_ok : (MTB.zipIdx.all (fun l => l.1.all (mchk l.2))) = true := by decide +kernel
theorem tab_at {α : Type} {B : List (List α)} {f : Nat → α → Bool} (h : (B.zipIdx.all (fun l => l.1.all (f l.2))) = true) {o : Nat} {e : α} (he : e ∈ B.getD o []) : f o e = true := by
  have ho : o < B.length := by
    by_cases hb : o < B.length
    · exact hb
    · rw [List.getD_eq_getElem?_getD, List.getElem?_eq_none (by omega)] at he
      cases he
  have hm : (B[o], o) ∈ B.zipIdx := List.mem_iff_getElem?.mpr ⟨o, by simp [List.getElem?_zipIdx, ho]⟩
  have h1 := List.all_eq_true.mp h _ hm
  rw [List.getD_eq_getElem?_getD, List.getElem?_eq_getElem ho] at he
  exact List.all_eq_true.mp h1 e he
theorem ftab_ok {o idx ci j t : Nat} (h : ftab o idx = some (ci, j, t)) : ∃ pos, fchk o (idx, ci, j, t, pos) = true := by
  unfold ftab at h
  split at h
  · rename_i e he
    cases h
    have h1 := List.mem_of_find?_eq_some he
    have h2 := List.find?_some he
    have h3 : e.1 = idx := by simpa using h2
    refine ⟨e.2.2.2.2, ?_⟩
    have h4 := tab_at FTB_ok h1
    rw [← h3]
    exact h4
  · cases h
theorem ktab_ok {o idx : Nat} {v : PV} (h : ktab o idx = some v) : ∃ pos, kchk o (idx, v, pos) = true := by
  unfold ktab at h
  split at h
  · rename_i e he
    cases h
    have h1 := List.mem_of_find?_eq_some he
    have h3 : e.1 = idx := by simpa using List.find?_some he
    refine ⟨e.2.2, ?_⟩
    have h4 := tab_at KTB_ok h1
    rw [← h3]
    exact h4
  · cases h
theorem mtab_ok {o idx t m n : Nat} (h : mtab o idx = some (t, m, n)) : ∃ r, mchk o (idx, t, m, n, r) = true := by
  unfold mtab at h
  split at h
  · rename_i e he
    cases h
    have h1 := List.mem_of_find?_eq_some he
    have h3 : e.1 = idx := by simpa using List.find?_some he
    refine ⟨e.2.2.2.2, ?_⟩
    have h4 := tab_at MTB_ok h1
    rw [← h3]
    exact h4
  · cases h
theorem cls_ok : ∀ (ci : Nat) (q : vw_C), vwCl[ci]? = some q → (∀ w ∈ u_ws q.1 q.2.1 q.2.2, w ∈ TB) ∧ (∃ ty0 : Nat → FieldType, ∀ k, k < q.2.2 → parseFieldDescriptor (q.2.1 k).2.2.1 = some (ty0 k)) ∧ ∀ a, a < q.2.2 → ∀ b, b < q.2.2 → a ≠ b → (q.2.1 a).2.1 ≠ (q.2.1 b).2.1
  | 0, q, h => by cases (show some (RX0, TX0, 3) = some q from h); exact ⟨inT0, ⟨tyX0, tyX0_ok⟩, nmX0⟩
  | 1, q, h => by cases (show some (RX1, TX1, 11) = some q from h); exact ⟨inT1, ⟨tyX1, tyX1_ok⟩, nmX1⟩
  | 2, q, h => by cases (show some (RX2, TX2, 10) = some q from h); exact ⟨inT2, ⟨tyX2, tyX2_ok⟩, nmX2⟩
  | 3, q, h => by cases (show some (RX3, TX3, 9) = some q from h); exact ⟨inT3, ⟨tyX3, tyX3_ok⟩, nmX3⟩
  | 4, q, h => by cases (show some (RX4, TX4, 7) = some q from h); exact ⟨inT4, ⟨tyX4, tyX4_ok⟩, nmX4⟩
  | 5, q, h => by cases (show some (RX5, TX5, 3) = some q from h); exact ⟨inT5, ⟨tyX5, tyX5_ok⟩, nmX5⟩
  | 6, q, h => by cases (show some (RX6, TX6, 13) = some q from h); exact ⟨inT6, ⟨tyX6, tyX6_ok⟩, nmX6⟩
  | 7, q, h => by cases (show some (RX7, TX7, 2) = some q from h); exact ⟨inT7, ⟨tyX7, tyX7_ok⟩, nmX7⟩
  | 8, q, h => by cases (show some (RX8, TX8, 14) = some q from h); exact ⟨inT8, ⟨tyX8, tyX8_ok⟩, nmX8⟩
  | 9, q, h => by cases (show some (RX9, TX9, 61) = some q from h); exact ⟨inT9, ⟨tyX9, tyX9_ok⟩, nmX9⟩
  | n + 10, q, h => by cases (show none = some q from h)
