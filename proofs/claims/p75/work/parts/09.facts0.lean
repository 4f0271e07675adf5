def tchk (cc : ByteArray) (t : PT) : Bool := t.zipIdx.all (fun q => match q.1 with
  | none => true
  | some e => decide (decode cc q.2 = .ok e))
theorem tchk_at {cc : ByteArray} {t : PT} (h : tchk cc t = true) {pc : Nat} {e : Instr × Nat} (he : t[pc]? = some (some e)) : decode cc pc = .ok e := by
  have h1 := List.all_eq_true.mp h (some e, pc) (List.mem_iff_getElem?.mpr ⟨pc, by simp [List.getElem?_zipIdx, he]⟩)
  simpa using h1
