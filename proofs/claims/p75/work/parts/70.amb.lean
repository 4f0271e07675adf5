/-! what the start gives: the constants -/
theorem str_one {args : Array Value} {s : State} {A : Nat → Prop} {tm : Term} {bs : List Int32} (hN : bs.length < 2 ^ 31) (hex : (Cond.exactly tm "java/lang/String").before args s = true) (hco : (Cond.eq (.field tm "java/lang/String" "coder" "B") (.int 0)).before args s = true) (har : (Cond.arrayOf (.field tm "java/lang/String" "value" "[B") .byte).before args s = true) (hle : (Cond.eq (.length (.field tm "java/lang/String" "value" "[B")) (.int (Int32.ofNat bs.length))).before args s = true) (hel : ∀ j : Nat, j < bs.length → (Cond.eq (.elem (.field tm "java/lang/String" "value" "[B") (.int (Int32.ofNat j))) (.int (bs.getD j 0))).before args s = true) (hA : ∀ a : Nat, a < s.heap.size → ¬ A a) :
    ∃ q v : Nat, tm.eval args s none [] s = some (.ref q) ∧ va_O "java/lang/String" q A s s.heap ∧ va_OF "java/lang/String" "coder" "B" (.int 0) q A s s.heap ∧ va_OF "java/lang/String" "value" "[B" (.ref v) q A s s.heap ∧ va_T .byte v bs.length (fun j => .int (bs.getD j 0)) A s s.heap := by
  obtain ⟨a, c, cA, kA, q1, q2, q3, q4, q5, q6, -⟩ := Cond.exactly_spec (args := args) (first := s) (o := none) (s := s) (idx := []) (t := tm) (cls := "java/lang/String") hex
  obtain ⟨t, ht, hT⟩ := va_Tof (f := fun j => .int (bs.getD j 0)) (A := A) hN har (va_eqt hle) (fun j hj => va_eqt (hel j hj)) hA
  exact ⟨a, t, q1, ⟨cA, q3, q5, by rw [q6]; exact q2, hA a (Array.getElem?_eq_some_iff.mp q3).1⟩, vk_OFof q1 (va_eqt hco) hA, vk_OFof q1 ht hA, hT⟩
theorem eq_ref {args : Array Value} {s : State} {t u : Term} {q : Nat} (h : (Cond.eq t u).before args s = true) (ht : t.eval args s none [] s = some (.ref q)) : u.eval args s none [] s = some (.ref q) := by
  cases hu : u.eval args s none [] s with
  | none => simp [Cond.before, Cond.holds, Cond.value, ht, hu] at h
  | some w =>
    cases w <;> simp [Cond.before, Cond.holds, Cond.value, ht, hu] at h
    rw [h]
theorem eq_ref' {args : Array Value} {s : State} {t u : Term} {q : Nat} (h : (Cond.eq u t).before args s = true) (ht : t.eval args s none [] s = some (.ref q)) : u.eval args s none [] s = some (.ref q) := by
  cases hu : u.eval args s none [] s with
  | none => simp [Cond.before, Cond.holds, Cond.value, ht, hu] at h
  | some w =>
    cases w <;> simp [Cond.before, Cond.holds, Cond.value, ht, hu] at h
    rw [h]
theorem st_0 {s : State} {b : Nat} (hs : ∀ w ∈ flatC (Jvm.Cond.and given_1 narrow_1), w.before #[Value.ref b] s = true) {A : Nat → Prop} (hA : ∀ a : Nat, a < s.heap.size → ¬ A a) : ∃ q v : Nat, (Term.string "HandLine$Reader" 79).eval #[Value.ref b] s none [] s = some (.ref q) ∧ va_O "java/lang/String" q A s s.heap ∧ va_OF "java/lang/String" "coder" "B" (.int 0) q A s s.heap ∧ va_OF "java/lang/String" "value" "[B" (.ref v) q A s s.heap ∧ va_T .byte v (pStrs.getD 0 []).length (fun j => .int ((pStrs.getD 0 []).getD j 0)) A s s.heap := str_one (bs := [98, 114, 105, 103, 97, 100, 101]) (by decide) (hs _ (List.mem_of_getElem? (i := 19) (by decide +kernel))) (hs _ (List.mem_of_getElem? (i := 20) (by decide +kernel))) (hs _ (List.mem_of_getElem? (i := 21) (by decide +kernel))) (hs _ (List.mem_of_getElem? (i := 22) (by decide +kernel))) (fun j hj => match j, hj with
  | 0, _ => (hs _ (List.mem_of_getElem? (i := 23) (by decide +kernel)))
  | 1, _ => (hs _ (List.mem_of_getElem? (i := 24) (by decide +kernel)))
  | 2, _ => (hs _ (List.mem_of_getElem? (i := 25) (by decide +kernel)))
  | 3, _ => (hs _ (List.mem_of_getElem? (i := 26) (by decide +kernel)))
  | 4, _ => (hs _ (List.mem_of_getElem? (i := 27) (by decide +kernel)))
  | 5, _ => (hs _ (List.mem_of_getElem? (i := 28) (by decide +kernel)))
  | 6, _ => (hs _ (List.mem_of_getElem? (i := 29) (by decide +kernel)))
  | n + 7, h => absurd h (by simp)) hA
theorem sm_0 {s : State} {b : Nat} (hs : ∀ w ∈ flatC (Jvm.Cond.and given_1 narrow_1), w.before #[Value.ref b] s = true) {q : Nat} (h : (Term.string "HandLine$Reader" 79).eval #[Value.ref b] s none [] s = some (.ref q)) : (Term.string "HandLineModel" 209).eval #[Value.ref b] s none [] s = some (.ref q) := eq_ref (hs _ (List.mem_of_getElem? (i := 159) (by decide +kernel))) h
theorem st_1 {s : State} {b : Nat} (hs : ∀ w ∈ flatC (Jvm.Cond.and given_1 narrow_1), w.before #[Value.ref b] s = true) {A : Nat → Prop} (hA : ∀ a : Nat, a < s.heap.size → ¬ A a) : ∃ q v : Nat, (Term.string "HandLine$Reader" 85).eval #[Value.ref b] s none [] s = some (.ref q) ∧ va_O "java/lang/String" q A s s.heap ∧ va_OF "java/lang/String" "coder" "B" (.int 0) q A s s.heap ∧ va_OF "java/lang/String" "value" "[B" (.ref v) q A s s.heap ∧ va_T .byte v (pStrs.getD 1 []).length (fun j => .int ((pStrs.getD 1 []).getD j 0)) A s s.heap := str_one (bs := [115, 101, 99, 111, 110, 100, 115]) (by decide) (hs _ (List.mem_of_getElem? (i := 30) (by decide +kernel))) (hs _ (List.mem_of_getElem? (i := 31) (by decide +kernel))) (hs _ (List.mem_of_getElem? (i := 32) (by decide +kernel))) (hs _ (List.mem_of_getElem? (i := 33) (by decide +kernel))) (fun j hj => match j, hj with
  | 0, _ => (hs _ (List.mem_of_getElem? (i := 34) (by decide +kernel)))
  | 1, _ => (hs _ (List.mem_of_getElem? (i := 35) (by decide +kernel)))
  | 2, _ => (hs _ (List.mem_of_getElem? (i := 36) (by decide +kernel)))
  | 3, _ => (hs _ (List.mem_of_getElem? (i := 37) (by decide +kernel)))
  | 4, _ => (hs _ (List.mem_of_getElem? (i := 38) (by decide +kernel)))
  | 5, _ => (hs _ (List.mem_of_getElem? (i := 39) (by decide +kernel)))
  | 6, _ => (hs _ (List.mem_of_getElem? (i := 40) (by decide +kernel)))
  | n + 7, h => absurd h (by simp)) hA
theorem sm_1 {s : State} {b : Nat} (hs : ∀ w ∈ flatC (Jvm.Cond.and given_1 narrow_1), w.before #[Value.ref b] s = true) {q : Nat} (h : (Term.string "HandLine$Reader" 85).eval #[Value.ref b] s none [] s = some (.ref q)) : (Term.string "HandLineModel" 211).eval #[Value.ref b] s none [] s = some (.ref q) := eq_ref (hs _ (List.mem_of_getElem? (i := 171) (by decide +kernel))) h
theorem st_2 {s : State} {b : Nat} (hs : ∀ w ∈ flatC (Jvm.Cond.and given_1 narrow_1), w.before #[Value.ref b] s = true) {A : Nat → Prop} (hA : ∀ a : Nat, a < s.heap.size → ¬ A a) : ∃ q v : Nat, (Term.string "HandLine$Reader" 91).eval #[Value.ref b] s none [] s = some (.ref q) ∧ va_O "java/lang/String" q A s s.heap ∧ va_OF "java/lang/String" "coder" "B" (.int 0) q A s s.heap ∧ va_OF "java/lang/String" "value" "[B" (.ref v) q A s s.heap ∧ va_T .byte v (pStrs.getD 2 []).length (fun j => .int ((pStrs.getD 2 []).getD j 0)) A s s.heap := str_one (bs := [98, 117, 99, 107, 101, 116, 115]) (by decide) (hs _ (List.mem_of_getElem? (i := 41) (by decide +kernel))) (hs _ (List.mem_of_getElem? (i := 42) (by decide +kernel))) (hs _ (List.mem_of_getElem? (i := 43) (by decide +kernel))) (hs _ (List.mem_of_getElem? (i := 44) (by decide +kernel))) (fun j hj => match j, hj with
  | 0, _ => (hs _ (List.mem_of_getElem? (i := 45) (by decide +kernel)))
  | 1, _ => (hs _ (List.mem_of_getElem? (i := 46) (by decide +kernel)))
  | 2, _ => (hs _ (List.mem_of_getElem? (i := 47) (by decide +kernel)))
  | 3, _ => (hs _ (List.mem_of_getElem? (i := 48) (by decide +kernel)))
  | 4, _ => (hs _ (List.mem_of_getElem? (i := 49) (by decide +kernel)))
  | 5, _ => (hs _ (List.mem_of_getElem? (i := 50) (by decide +kernel)))
  | 6, _ => (hs _ (List.mem_of_getElem? (i := 51) (by decide +kernel)))
  | n + 7, h => absurd h (by simp)) hA
theorem sm_2 {s : State} {b : Nat} (hs : ∀ w ∈ flatC (Jvm.Cond.and given_1 narrow_1), w.before #[Value.ref b] s = true) {q : Nat} (h : (Term.string "HandLine$Reader" 91).eval #[Value.ref b] s none [] s = some (.ref q)) : (Term.string "HandLineModel" 217).eval #[Value.ref b] s none [] s = some (.ref q) := eq_ref (hs _ (List.mem_of_getElem? (i := 183) (by decide +kernel))) h
theorem st_3 {s : State} {b : Nat} (hs : ∀ w ∈ flatC (Jvm.Cond.and given_1 narrow_1), w.before #[Value.ref b] s = true) {A : Nat → Prop} (hA : ∀ a : Nat, a < s.heap.size → ¬ A a) : ∃ q v : Nat, (Term.string "HandLine$Reader" 93).eval #[Value.ref b] s none [] s = some (.ref q) ∧ va_O "java/lang/String" q A s s.heap ∧ va_OF "java/lang/String" "coder" "B" (.int 0) q A s s.heap ∧ va_OF "java/lang/String" "value" "[B" (.ref v) q A s s.heap ∧ va_T .byte v (pStrs.getD 3 []).length (fun j => .int ((pStrs.getD 3 []).getD j 0)) A s s.heap := str_one (bs := [115, 105, 122, 101]) (by decide) (hs _ (List.mem_of_getElem? (i := 52) (by decide +kernel))) (hs _ (List.mem_of_getElem? (i := 53) (by decide +kernel))) (hs _ (List.mem_of_getElem? (i := 54) (by decide +kernel))) (hs _ (List.mem_of_getElem? (i := 55) (by decide +kernel))) (fun j hj => match j, hj with
  | 0, _ => (hs _ (List.mem_of_getElem? (i := 56) (by decide +kernel)))
  | 1, _ => (hs _ (List.mem_of_getElem? (i := 57) (by decide +kernel)))
  | 2, _ => (hs _ (List.mem_of_getElem? (i := 58) (by decide +kernel)))
  | 3, _ => (hs _ (List.mem_of_getElem? (i := 59) (by decide +kernel)))
  | n + 4, h => absurd h (by simp)) hA
theorem sm_3 {s : State} {b : Nat} (hs : ∀ w ∈ flatC (Jvm.Cond.and given_1 narrow_1), w.before #[Value.ref b] s = true) {q : Nat} (h : (Term.string "HandLine$Reader" 93).eval #[Value.ref b] s none [] s = some (.ref q)) : (Term.string "HandLineModel" 219).eval #[Value.ref b] s none [] s = some (.ref q) := eq_ref (hs _ (List.mem_of_getElem? (i := 192) (by decide +kernel))) h
theorem st_4 {s : State} {b : Nat} (hs : ∀ w ∈ flatC (Jvm.Cond.and given_1 narrow_1), w.before #[Value.ref b] s = true) {A : Nat → Prop} (hA : ∀ a : Nat, a < s.heap.size → ¬ A a) : ∃ q v : Nat, (Term.string "HandLine$Reader" 95).eval #[Value.ref b] s none [] s = some (.ref q) ∧ va_O "java/lang/String" q A s s.heap ∧ va_OF "java/lang/String" "coder" "B" (.int 0) q A s s.heap ∧ va_OF "java/lang/String" "value" "[B" (.ref v) q A s s.heap ∧ va_T .byte v (pStrs.getD 4 []).length (fun j => .int ((pStrs.getD 4 []).getD j 0)) A s s.heap := str_one (bs := [98, 97, 99, 107]) (by decide) (hs _ (List.mem_of_getElem? (i := 60) (by decide +kernel))) (hs _ (List.mem_of_getElem? (i := 61) (by decide +kernel))) (hs _ (List.mem_of_getElem? (i := 62) (by decide +kernel))) (hs _ (List.mem_of_getElem? (i := 63) (by decide +kernel))) (fun j hj => match j, hj with
  | 0, _ => (hs _ (List.mem_of_getElem? (i := 64) (by decide +kernel)))
  | 1, _ => (hs _ (List.mem_of_getElem? (i := 65) (by decide +kernel)))
  | 2, _ => (hs _ (List.mem_of_getElem? (i := 66) (by decide +kernel)))
  | 3, _ => (hs _ (List.mem_of_getElem? (i := 67) (by decide +kernel)))
  | n + 4, h => absurd h (by simp)) hA
theorem sm_4 {s : State} {b : Nat} (hs : ∀ w ∈ flatC (Jvm.Cond.and given_1 narrow_1), w.before #[Value.ref b] s = true) {q : Nat} (h : (Term.string "HandLine$Reader" 95).eval #[Value.ref b] s none [] s = some (.ref q)) : (Term.string "HandLineModel" 221).eval #[Value.ref b] s none [] s = some (.ref q) := eq_ref (hs _ (List.mem_of_getElem? (i := 201) (by decide +kernel))) h
theorem st_5 {s : State} {b : Nat} (hs : ∀ w ∈ flatC (Jvm.Cond.and given_1 narrow_1), w.before #[Value.ref b] s = true) {A : Nat → Prop} (hA : ∀ a : Nat, a < s.heap.size → ¬ A a) : ∃ q v : Nat, (Term.string "HandLine$Reader" 97).eval #[Value.ref b] s none [] s = some (.ref q) ∧ va_O "java/lang/String" q A s s.heap ∧ va_OF "java/lang/String" "coder" "B" (.int 0) q A s s.heap ∧ va_OF "java/lang/String" "value" "[B" (.ref v) q A s s.heap ∧ va_T .byte v (pStrs.getD 5 []).length (fun j => .int ((pStrs.getD 5 []).getD j 0)) A s s.heap := str_one (bs := [111, 100, 100, 115]) (by decide) (hs _ (List.mem_of_getElem? (i := 68) (by decide +kernel))) (hs _ (List.mem_of_getElem? (i := 69) (by decide +kernel))) (hs _ (List.mem_of_getElem? (i := 70) (by decide +kernel))) (hs _ (List.mem_of_getElem? (i := 71) (by decide +kernel))) (fun j hj => match j, hj with
  | 0, _ => (hs _ (List.mem_of_getElem? (i := 72) (by decide +kernel)))
  | 1, _ => (hs _ (List.mem_of_getElem? (i := 73) (by decide +kernel)))
  | 2, _ => (hs _ (List.mem_of_getElem? (i := 74) (by decide +kernel)))
  | 3, _ => (hs _ (List.mem_of_getElem? (i := 75) (by decide +kernel)))
  | n + 4, h => absurd h (by simp)) hA
theorem sm_5 {s : State} {b : Nat} (hs : ∀ w ∈ flatC (Jvm.Cond.and given_1 narrow_1), w.before #[Value.ref b] s = true) {q : Nat} (h : (Term.string "HandLine$Reader" 97).eval #[Value.ref b] s none [] s = some (.ref q)) : (Term.string "HandLineModel" 223).eval #[Value.ref b] s none [] s = some (.ref q) := eq_ref (hs _ (List.mem_of_getElem? (i := 210) (by decide +kernel))) h
theorem st_6 {s : State} {b : Nat} (hs : ∀ w ∈ flatC (Jvm.Cond.and given_1 narrow_1), w.before #[Value.ref b] s = true) {A : Nat → Prop} (hA : ∀ a : Nat, a < s.heap.size → ¬ A a) : ∃ q v : Nat, (Term.string "HandLine$Reader" 56).eval #[Value.ref b] s none [] s = some (.ref q) ∧ va_O "java/lang/String" q A s s.heap ∧ va_OF "java/lang/String" "coder" "B" (.int 0) q A s s.heap ∧ va_OF "java/lang/String" "value" "[B" (.ref v) q A s s.heap ∧ va_T .byte v (pStrs.getD 6 []).length (fun j => .int ((pStrs.getD 6 []).getD j 0)) A s s.heap := str_one (bs := [104, 97, 110, 100]) (by decide) (hs _ (List.mem_of_getElem? (i := 76) (by decide +kernel))) (hs _ (List.mem_of_getElem? (i := 77) (by decide +kernel))) (hs _ (List.mem_of_getElem? (i := 78) (by decide +kernel))) (hs _ (List.mem_of_getElem? (i := 79) (by decide +kernel))) (fun j hj => match j, hj with
  | 0, _ => (hs _ (List.mem_of_getElem? (i := 80) (by decide +kernel)))
  | 1, _ => (hs _ (List.mem_of_getElem? (i := 81) (by decide +kernel)))
  | 2, _ => (hs _ (List.mem_of_getElem? (i := 82) (by decide +kernel)))
  | 3, _ => (hs _ (List.mem_of_getElem? (i := 83) (by decide +kernel)))
  | n + 4, h => absurd h (by simp)) hA
theorem sm_6 {s : State} {b : Nat} (hs : ∀ w ∈ flatC (Jvm.Cond.and given_1 narrow_1), w.before #[Value.ref b] s = true) {q : Nat} (h : (Term.string "HandLine$Reader" 56).eval #[Value.ref b] s none [] s = some (.ref q)) : (Term.string "HandLineModel" 229).eval #[Value.ref b] s none [] s = some (.ref q) := eq_ref (hs _ (List.mem_of_getElem? (i := 242) (by decide +kernel))) h
theorem st_7 {s : State} {b : Nat} (hs : ∀ w ∈ flatC (Jvm.Cond.and given_1 narrow_1), w.before #[Value.ref b] s = true) {A : Nat → Prop} (hA : ∀ a : Nat, a < s.heap.size → ¬ A a) : ∃ q v : Nat, (Term.string "HandLine$Reader" 103).eval #[Value.ref b] s none [] s = some (.ref q) ∧ va_O "java/lang/String" q A s s.heap ∧ va_OF "java/lang/String" "coder" "B" (.int 0) q A s s.heap ∧ va_OF "java/lang/String" "value" "[B" (.ref v) q A s s.heap ∧ va_T .byte v (pStrs.getD 7 []).length (fun j => .int ((pStrs.getD 7 []).getD j 0)) A s s.heap := str_one (bs := [112, 97, 99, 101]) (by decide) (hs _ (List.mem_of_getElem? (i := 84) (by decide +kernel))) (hs _ (List.mem_of_getElem? (i := 85) (by decide +kernel))) (hs _ (List.mem_of_getElem? (i := 86) (by decide +kernel))) (hs _ (List.mem_of_getElem? (i := 87) (by decide +kernel))) (fun j hj => match j, hj with
  | 0, _ => (hs _ (List.mem_of_getElem? (i := 88) (by decide +kernel)))
  | 1, _ => (hs _ (List.mem_of_getElem? (i := 89) (by decide +kernel)))
  | 2, _ => (hs _ (List.mem_of_getElem? (i := 90) (by decide +kernel)))
  | 3, _ => (hs _ (List.mem_of_getElem? (i := 91) (by decide +kernel)))
  | n + 4, h => absurd h (by simp)) hA
theorem sm_7 {s : State} {b : Nat} (hs : ∀ w ∈ flatC (Jvm.Cond.and given_1 narrow_1), w.before #[Value.ref b] s = true) {q : Nat} (h : (Term.string "HandLine$Reader" 103).eval #[Value.ref b] s none [] s = some (.ref q)) : (Term.string "HandLineModel" 233).eval #[Value.ref b] s none [] s = some (.ref q) := eq_ref (hs _ (List.mem_of_getElem? (i := 260) (by decide +kernel))) h
theorem st_8 {s : State} {b : Nat} (hs : ∀ w ∈ flatC (Jvm.Cond.and given_1 narrow_1), w.before #[Value.ref b] s = true) {A : Nat → Prop} (hA : ∀ a : Nat, a < s.heap.size → ¬ A a) : ∃ q v : Nat, (Term.string "HandLine$Reader" 105).eval #[Value.ref b] s none [] s = some (.ref q) ∧ va_O "java/lang/String" q A s s.heap ∧ va_OF "java/lang/String" "coder" "B" (.int 0) q A s s.heap ∧ va_OF "java/lang/String" "value" "[B" (.ref v) q A s s.heap ∧ va_T .byte v (pStrs.getD 8 []).length (fun j => .int ((pStrs.getD 8 []).getD j 0)) A s s.heap := str_one (bs := [115, 112, 105, 108, 108, 115]) (by decide) (hs _ (List.mem_of_getElem? (i := 92) (by decide +kernel))) (hs _ (List.mem_of_getElem? (i := 93) (by decide +kernel))) (hs _ (List.mem_of_getElem? (i := 94) (by decide +kernel))) (hs _ (List.mem_of_getElem? (i := 95) (by decide +kernel))) (fun j hj => match j, hj with
  | 0, _ => (hs _ (List.mem_of_getElem? (i := 96) (by decide +kernel)))
  | 1, _ => (hs _ (List.mem_of_getElem? (i := 97) (by decide +kernel)))
  | 2, _ => (hs _ (List.mem_of_getElem? (i := 98) (by decide +kernel)))
  | 3, _ => (hs _ (List.mem_of_getElem? (i := 99) (by decide +kernel)))
  | 4, _ => (hs _ (List.mem_of_getElem? (i := 100) (by decide +kernel)))
  | 5, _ => (hs _ (List.mem_of_getElem? (i := 101) (by decide +kernel)))
  | n + 6, h => absurd h (by simp)) hA
theorem sm_8 {s : State} {b : Nat} (hs : ∀ w ∈ flatC (Jvm.Cond.and given_1 narrow_1), w.before #[Value.ref b] s = true) {q : Nat} (h : (Term.string "HandLine$Reader" 105).eval #[Value.ref b] s none [] s = some (.ref q)) : (Term.string "HandLineModel" 235).eval #[Value.ref b] s none [] s = some (.ref q) := eq_ref (hs _ (List.mem_of_getElem? (i := 271) (by decide +kernel))) h
theorem st_9 {s : State} {b : Nat} (hs : ∀ w ∈ flatC (Jvm.Cond.and given_1 narrow_1), w.before #[Value.ref b] s = true) {A : Nat → Prop} (hA : ∀ a : Nat, a < s.heap.size → ¬ A a) : ∃ q v : Nat, (Term.string "HandLine$Reader" 65).eval #[Value.ref b] s none [] s = some (.ref q) ∧ va_O "java/lang/String" q A s s.heap ∧ va_OF "java/lang/String" "coder" "B" (.int 0) q A s s.heap ∧ va_OF "java/lang/String" "value" "[B" (.ref v) q A s s.heap ∧ va_T .byte v (pStrs.getD 9 []).length (fun j => .int ((pStrs.getD 9 []).getD j 0)) A s s.heap := str_one (bs := [116, 111, 103, 101, 116, 104, 101, 114]) (by decide) (hs _ (List.mem_of_getElem? (i := 102) (by decide +kernel))) (hs _ (List.mem_of_getElem? (i := 103) (by decide +kernel))) (hs _ (List.mem_of_getElem? (i := 104) (by decide +kernel))) (hs _ (List.mem_of_getElem? (i := 105) (by decide +kernel))) (fun j hj => match j, hj with
  | 0, _ => (hs _ (List.mem_of_getElem? (i := 106) (by decide +kernel)))
  | 1, _ => (hs _ (List.mem_of_getElem? (i := 107) (by decide +kernel)))
  | 2, _ => (hs _ (List.mem_of_getElem? (i := 108) (by decide +kernel)))
  | 3, _ => (hs _ (List.mem_of_getElem? (i := 109) (by decide +kernel)))
  | 4, _ => (hs _ (List.mem_of_getElem? (i := 110) (by decide +kernel)))
  | 5, _ => (hs _ (List.mem_of_getElem? (i := 111) (by decide +kernel)))
  | 6, _ => (hs _ (List.mem_of_getElem? (i := 112) (by decide +kernel)))
  | 7, _ => (hs _ (List.mem_of_getElem? (i := 113) (by decide +kernel)))
  | n + 8, h => absurd h (by simp)) hA
theorem sm_9 {s : State} {b : Nat} (hs : ∀ w ∈ flatC (Jvm.Cond.and given_1 narrow_1), w.before #[Value.ref b] s = true) {q : Nat} (h : (Term.string "HandLine$Reader" 65).eval #[Value.ref b] s none [] s = some (.ref q)) : (Term.string "HandLineModel" 225).eval #[Value.ref b] s none [] s = some (.ref q) := eq_ref (hs _ (List.mem_of_getElem? (i := 223) (by decide +kernel))) h
theorem st_10 {s : State} {b : Nat} (hs : ∀ w ∈ flatC (Jvm.Cond.and given_1 narrow_1), w.before #[Value.ref b] s = true) {A : Nat → Prop} (hA : ∀ a : Nat, a < s.heap.size → ¬ A a) : ∃ q v : Nat, (Term.string "HandLine$Reader" 71).eval #[Value.ref b] s none [] s = some (.ref q) ∧ va_O "java/lang/String" q A s s.heap ∧ va_OF "java/lang/String" "coder" "B" (.int 0) q A s s.heap ∧ va_OF "java/lang/String" "value" "[B" (.ref v) q A s s.heap ∧ va_T .byte v (pStrs.getD 10 []).length (fun j => .int ((pStrs.getD 10 []).getD j 0)) A s s.heap := str_one (bs := [97, 112, 97, 114, 116]) (by decide) (hs _ (List.mem_of_getElem? (i := 114) (by decide +kernel))) (hs _ (List.mem_of_getElem? (i := 115) (by decide +kernel))) (hs _ (List.mem_of_getElem? (i := 116) (by decide +kernel))) (hs _ (List.mem_of_getElem? (i := 117) (by decide +kernel))) (fun j hj => match j, hj with
  | 0, _ => (hs _ (List.mem_of_getElem? (i := 118) (by decide +kernel)))
  | 1, _ => (hs _ (List.mem_of_getElem? (i := 119) (by decide +kernel)))
  | 2, _ => (hs _ (List.mem_of_getElem? (i := 120) (by decide +kernel)))
  | 3, _ => (hs _ (List.mem_of_getElem? (i := 121) (by decide +kernel)))
  | 4, _ => (hs _ (List.mem_of_getElem? (i := 122) (by decide +kernel)))
  | n + 5, h => absurd h (by simp)) hA
theorem sm_10 {s : State} {b : Nat} (hs : ∀ w ∈ flatC (Jvm.Cond.and given_1 narrow_1), w.before #[Value.ref b] s = true) {q : Nat} (h : (Term.string "HandLine$Reader" 71).eval #[Value.ref b] s none [] s = some (.ref q)) : (Term.string "HandLineModel" 227).eval #[Value.ref b] s none [] s = some (.ref q) := eq_ref (hs _ (List.mem_of_getElem? (i := 233) (by decide +kernel))) h
theorem st_11 {s : State} {b : Nat} (hs : ∀ w ∈ flatC (Jvm.Cond.and given_1 narrow_1), w.before #[Value.ref b] s = true) {A : Nat → Prop} (hA : ∀ a : Nat, a < s.heap.size → ¬ A a) : ∃ q v : Nat, (Term.string "HandLine$Reader" 115).eval #[Value.ref b] s none [] s = some (.ref q) ∧ va_O "java/lang/String" q A s s.heap ∧ va_OF "java/lang/String" "coder" "B" (.int 0) q A s s.heap ∧ va_OF "java/lang/String" "value" "[B" (.ref v) q A s s.heap ∧ va_T .byte v (pStrs.getD 11 []).length (fun j => .int ((pStrs.getD 11 []).getD j 0)) A s s.heap := str_one (bs := [102, 105, 114, 101]) (by decide) (hs _ (List.mem_of_getElem? (i := 123) (by decide +kernel))) (hs _ (List.mem_of_getElem? (i := 124) (by decide +kernel))) (hs _ (List.mem_of_getElem? (i := 125) (by decide +kernel))) (hs _ (List.mem_of_getElem? (i := 126) (by decide +kernel))) (fun j hj => match j, hj with
  | 0, _ => (hs _ (List.mem_of_getElem? (i := 127) (by decide +kernel)))
  | 1, _ => (hs _ (List.mem_of_getElem? (i := 128) (by decide +kernel)))
  | 2, _ => (hs _ (List.mem_of_getElem? (i := 129) (by decide +kernel)))
  | 3, _ => (hs _ (List.mem_of_getElem? (i := 130) (by decide +kernel)))
  | n + 4, h => absurd h (by simp)) hA
theorem sm_11 {s : State} {b : Nat} (hs : ∀ w ∈ flatC (Jvm.Cond.and given_1 narrow_1), w.before #[Value.ref b] s = true) {q : Nat} (h : (Term.string "HandLine$Reader" 115).eval #[Value.ref b] s none [] s = some (.ref q)) : (Term.string "HandLineModel" 231).eval #[Value.ref b] s none [] s = some (.ref q) := eq_ref (hs _ (List.mem_of_getElem? (i := 251) (by decide +kernel))) h
theorem st_12 {s : State} {b : Nat} (hs : ∀ w ∈ flatC (Jvm.Cond.and given_1 narrow_1), w.before #[Value.ref b] s = true) {A : Nat → Prop} (hA : ∀ a : Nat, a < s.heap.size → ¬ A a) : ∃ q v : Nat, (Term.string "HandLine$Reader" 117).eval #[Value.ref b] s none [] s = some (.ref q) ∧ va_O "java/lang/String" q A s s.heap ∧ va_OF "java/lang/String" "coder" "B" (.int 0) q A s s.heap ∧ va_OF "java/lang/String" "value" "[B" (.ref v) q A s s.heap ∧ va_T .byte v (pStrs.getD 12 []).length (fun j => .int ((pStrs.getD 12 []).getD j 0)) A s s.heap := str_one (bs := [104, 101, 97, 116]) (by decide) (hs _ (List.mem_of_getElem? (i := 131) (by decide +kernel))) (hs _ (List.mem_of_getElem? (i := 132) (by decide +kernel))) (hs _ (List.mem_of_getElem? (i := 133) (by decide +kernel))) (hs _ (List.mem_of_getElem? (i := 134) (by decide +kernel))) (fun j hj => match j, hj with
  | 0, _ => (hs _ (List.mem_of_getElem? (i := 135) (by decide +kernel)))
  | 1, _ => (hs _ (List.mem_of_getElem? (i := 136) (by decide +kernel)))
  | 2, _ => (hs _ (List.mem_of_getElem? (i := 137) (by decide +kernel)))
  | 3, _ => (hs _ (List.mem_of_getElem? (i := 138) (by decide +kernel)))
  | n + 4, h => absurd h (by simp)) hA
theorem sm_12 {s : State} {b : Nat} (hs : ∀ w ∈ flatC (Jvm.Cond.and given_1 narrow_1), w.before #[Value.ref b] s = true) {q : Nat} (h : (Term.string "HandLine$Reader" 117).eval #[Value.ref b] s none [] s = some (.ref q)) : (Term.string "HandLineModel" 240).eval #[Value.ref b] s none [] s = some (.ref q) := eq_ref (hs _ (List.mem_of_getElem? (i := 280) (by decide +kernel))) h
theorem st_13 {s : State} {b : Nat} (hs : ∀ w ∈ flatC (Jvm.Cond.and given_1 narrow_1), w.before #[Value.ref b] s = true) {A : Nat → Prop} (hA : ∀ a : Nat, a < s.heap.size → ¬ A a) : ∃ q v : Nat, (Term.string "HandLine$Reader" 119).eval #[Value.ref b] s none [] s = some (.ref q) ∧ va_O "java/lang/String" q A s s.heap ∧ va_OF "java/lang/String" "coder" "B" (.int 0) q A s s.heap ∧ va_OF "java/lang/String" "value" "[B" (.ref v) q A s s.heap ∧ va_T .byte v (pStrs.getD 13 []).length (fun j => .int ((pStrs.getD 13 []).getD j 0)) A s s.heap := str_one (bs := [103, 114, 111, 119, 115]) (by decide) (hs _ (List.mem_of_getElem? (i := 139) (by decide +kernel))) (hs _ (List.mem_of_getElem? (i := 140) (by decide +kernel))) (hs _ (List.mem_of_getElem? (i := 141) (by decide +kernel))) (hs _ (List.mem_of_getElem? (i := 142) (by decide +kernel))) (fun j hj => match j, hj with
  | 0, _ => (hs _ (List.mem_of_getElem? (i := 143) (by decide +kernel)))
  | 1, _ => (hs _ (List.mem_of_getElem? (i := 144) (by decide +kernel)))
  | 2, _ => (hs _ (List.mem_of_getElem? (i := 145) (by decide +kernel)))
  | 3, _ => (hs _ (List.mem_of_getElem? (i := 146) (by decide +kernel)))
  | 4, _ => (hs _ (List.mem_of_getElem? (i := 147) (by decide +kernel)))
  | n + 5, h => absurd h (by simp)) hA
theorem sm_13 {s : State} {b : Nat} (hs : ∀ w ∈ flatC (Jvm.Cond.and given_1 narrow_1), w.before #[Value.ref b] s = true) {q : Nat} (h : (Term.string "HandLine$Reader" 119).eval #[Value.ref b] s none [] s = some (.ref q)) : (Term.string "HandLineModel" 242).eval #[Value.ref b] s none [] s = some (.ref q) := eq_ref (hs _ (List.mem_of_getElem? (i := 290) (by decide +kernel))) h
theorem st_fact {s : State} {b : Nat} (hs : ∀ w ∈ flatC (Jvm.Cond.and given_1 narrow_1), w.before #[Value.ref b] s = true) {A : Nat → Prop} (hA : ∀ a : Nat, a < s.heap.size → ¬ A a) : ∃ t : Nat, (Term.static "HandLine" "FACTORIAL" "[I").eval #[Value.ref b] s none [] s = some (.ref t) ∧ va_T .int t 7 (fun j => .int (pFact j)) A s s.heap := va_Tof (by decide) (hs _ (List.mem_of_getElem? (i := 10) (by decide +kernel))) (va_eqt (hs _ (List.mem_of_getElem? (i := 11) (by decide +kernel)))) (fun j hj => match j, hj with
  | 0, _ => va_eqt (hs _ (List.mem_of_getElem? (i := 12) (by decide +kernel)))
  | 1, _ => va_eqt (hs _ (List.mem_of_getElem? (i := 13) (by decide +kernel)))
  | 2, _ => va_eqt (hs _ (List.mem_of_getElem? (i := 14) (by decide +kernel)))
  | 3, _ => va_eqt (hs _ (List.mem_of_getElem? (i := 15) (by decide +kernel)))
  | 4, _ => va_eqt (hs _ (List.mem_of_getElem? (i := 16) (by decide +kernel)))
  | 5, _ => va_eqt (hs _ (List.mem_of_getElem? (i := 17) (by decide +kernel)))
  | 6, _ => va_eqt (hs _ (List.mem_of_getElem? (i := 18) (by decide +kernel)))
  | n + 7, h => absurd h (by omega)) hA
def KS : List (Nat × Nat × Nat) := [(4, 56, 6), (4, 65, 9), (4, 71, 10), (4, 79, 0), (4, 85, 1), (4, 91, 2), (4, 93, 3), (4, 95, 4), (4, 97, 5), (4, 103, 7), (4, 105, 8), (4, 115, 11), (4, 117, 12), (4, 119, 13), (9, 209, 0), (9, 211, 1), (9, 217, 2), (9, 219, 3), (9, 221, 4), (9, 223, 5), (9, 225, 9), (9, 227, 10), (9, 229, 6), (9, 231, 11), (9, 233, 7), (9, 235, 8), (9, 240, 12), (9, 242, 13)]
def isK (o : Nat) (e : Nat × PV × Nat) : Bool := match e.2.1 with
  | .inr (.inr (.inr (i + 1))) => KS.contains (o, e.1, i)
  | _ => true
theorem KS_all : ∀ o, o < 15 → (KTB.getD o []).all (isK o) = true := by decide +kernel
theorem KS_of {o idx i : Nat} (h : ktab o idx = some (.inr (.inr (.inr (i + 1))))) : (o, idx, i) ∈ KS := by
  unfold ktab at h
  split at h
  · rename_i e he
    have hm := List.mem_of_find?_eq_some he
    have hp := List.find?_some he
    have hi : e.1 = idx := by simpa using hp
    have ho : o < 15 := by
      rcases Nat.lt_or_ge o 15 with c | c
      · exact c
      · rw [List.getD_eq_getElem?_getD, List.getElem?_eq_none (by exact c)] at hm
        exact absurd hm List.not_mem_nil
    have ha := List.all_eq_true.mp (KS_all o ho) e hm
    unfold isK at ha
    rw [Option.some.inj h] at ha
    rw [← hi]
    simpa using ha
  · cases h
theorem NST_law : ∀ q ∈ NST, Cond.methodLinkNest (cn q.1) q.2.1 q.2.2 RX8 ∈ lw_tbl := by decide +kernel
set_option maxRecDepth 100000 in
theorem amb_start {s : State} {b : Nat} (hts : ∀ w ∈ lw_tbl, w.before #[Value.ref b] s = true) (hgv : (Jvm.Cond.and given_1 narrow_1).before #[Value.ref b] s = true) : ∃ σ : Nat → Option Nat, AMB σ (fun q : Nat => s.heap.size ≤ q) s s.heap := by
  have hs := flat_of_before _ hgv
  have hA : ∀ a : Nat, a < s.heap.size → ¬ (fun q : Nat => s.heap.size ≤ q) a := fun a h => Nat.not_le.mpr h
  obtain ⟨q0, v0, e0, z0⟩ := st_0 hs hA
  obtain ⟨q1, v1, e1, z1⟩ := st_1 hs hA
  obtain ⟨q2, v2, e2, z2⟩ := st_2 hs hA
  obtain ⟨q3, v3, e3, z3⟩ := st_3 hs hA
  obtain ⟨q4, v4, e4, z4⟩ := st_4 hs hA
  obtain ⟨q5, v5, e5, z5⟩ := st_5 hs hA
  obtain ⟨q6, v6, e6, z6⟩ := st_6 hs hA
  obtain ⟨q7, v7, e7, z7⟩ := st_7 hs hA
  obtain ⟨q8, v8, e8, z8⟩ := st_8 hs hA
  obtain ⟨q9, v9, e9, z9⟩ := st_9 hs hA
  obtain ⟨q10, v10, e10, z10⟩ := st_10 hs hA
  obtain ⟨q11, v11, e11, z11⟩ := st_11 hs hA
  obtain ⟨q12, v12, e12, z12⟩ := st_12 hs hA
  obtain ⟨q13, v13, e13, z13⟩ := st_13 hs hA
  obtain ⟨tF, eF, zF⟩ := st_fact hs hA
  have hQ := va_Zqof (C := "jdk/internal/util/Preconditions") (n := "SIOOBE_FORMATTER") (d := "Ljava/util/function/BiFunction;") (hts _ (List.mem_append_right _ (List.mem_of_getElem? (i := 440) (by decide +kernel)))) (hts _ (List.mem_append_right _ (List.mem_of_getElem? (i := 14) (by decide +kernel)))) (hs _ (List.mem_of_getElem? (i := 5) (by decide +kernel))) hA
  obtain ⟨oF, hO⟩ : ∃ oF : Option Nat, va_Z "jdk/internal/util/Preconditions" "SIOOBE_FORMATTER" "Ljava/util/function/BiFunction;" (va_rf oF) (fun q : Nat => s.heap.size ≤ q) s s.heap := by
    rcases hQ with h | ⟨t, h⟩
    · exact ⟨none, h⟩
    · exact ⟨some t, h⟩
  obtain ⟨σ, hσ⟩ : ∃ σ : Nat → Option Nat, σ = fun k => if k = 0 then some tF else if k < 15 then some (([q0, q1, q2, q3, q4, q5, q6, q7, q8, q9, q10, q11, q12, q13] : List Nat).getD (k - 1) 0) else if k < 29 then some (([v0, v1, v2, v3, v4, v5, v6, v7, v8, v9, v10, v11, v12, v13] : List Nat).getD (k - 15) 0) else oF := ⟨_, rfl⟩
  refine ⟨σ, fun q hq => va_Nw.of rfl (hts _ (NST_law q hq)), fun o idx i h => ?_, va_Zof (hts _ (List.mem_append_right _ (List.mem_of_getElem? (i := 424) (by decide +kernel)))) (hts _ (List.mem_append_right _ (List.mem_of_getElem? (i := 12) (by decide +kernel)))) (va_eqi (hs _ (List.mem_of_getElem? (i := 4) (by decide +kernel)))) hA, fun i hi => ?_, ⟨tF, by rw [hσ]; rfl, va_Zref (hts _ (List.mem_append_right _ (List.mem_of_getElem? (i := 1071) (by decide +kernel)))) (hts _ (List.mem_append_right _ (List.mem_of_getElem? (i := 1) (by decide +kernel)))) eF hA, zF⟩, by rw [hσ]; exact hO⟩
  · have hk := KS_of h
    unfold KS at hk
    simp only [List.mem_cons, Prod.mk.injEq, List.not_mem_nil, or_false] at hk
    rcases hk with ⟨rfl, rfl, rfl⟩ | ⟨rfl, rfl, rfl⟩ | ⟨rfl, rfl, rfl⟩ | ⟨rfl, rfl, rfl⟩ | ⟨rfl, rfl, rfl⟩ | ⟨rfl, rfl, rfl⟩ | ⟨rfl, rfl, rfl⟩ | ⟨rfl, rfl, rfl⟩ | ⟨rfl, rfl, rfl⟩ | ⟨rfl, rfl, rfl⟩ | ⟨rfl, rfl, rfl⟩ | ⟨rfl, rfl, rfl⟩ | ⟨rfl, rfl, rfl⟩ | ⟨rfl, rfl, rfl⟩ | ⟨rfl, rfl, rfl⟩ | ⟨rfl, rfl, rfl⟩ | ⟨rfl, rfl, rfl⟩ | ⟨rfl, rfl, rfl⟩ | ⟨rfl, rfl, rfl⟩ | ⟨rfl, rfl, rfl⟩ | ⟨rfl, rfl, rfl⟩ | ⟨rfl, rfl, rfl⟩ | ⟨rfl, rfl, rfl⟩ | ⟨rfl, rfl, rfl⟩ | ⟨rfl, rfl, rfl⟩ | ⟨rfl, rfl, rfl⟩ | ⟨rfl, rfl, rfl⟩ | ⟨rfl, rfl, rfl⟩
    · exact ⟨"hand", q6, by rw [hσ]; rfl, vk_R.of (hts _ (List.mem_append_right _ (List.mem_of_getElem? (i := 476) (by decide +kernel)))) e6⟩
    · exact ⟨"together", q9, by rw [hσ]; rfl, vk_R.of (hts _ (List.mem_append_right _ (List.mem_of_getElem? (i := 487) (by decide +kernel)))) e9⟩
    · exact ⟨"apart", q10, by rw [hσ]; rfl, vk_R.of (hts _ (List.mem_append_right _ (List.mem_of_getElem? (i := 496) (by decide +kernel)))) e10⟩
    · exact ⟨"brigade", q0, by rw [hσ]; rfl, vk_R.of (hts _ (List.mem_append_right _ (List.mem_of_getElem? (i := 406) (by decide +kernel)))) e0⟩
    · exact ⟨"seconds", q1, by rw [hσ]; rfl, vk_R.of (hts _ (List.mem_append_right _ (List.mem_of_getElem? (i := 467) (by decide +kernel)))) e1⟩
    · exact ⟨"buckets", q2, by rw [hσ]; rfl, vk_R.of (hts _ (List.mem_append_right _ (List.mem_of_getElem? (i := 472) (by decide +kernel)))) e2⟩
    · exact ⟨"size", q3, by rw [hσ]; rfl, vk_R.of (hts _ (List.mem_append_right _ (List.mem_of_getElem? (i := 473) (by decide +kernel)))) e3⟩
    · exact ⟨"back", q4, by rw [hσ]; rfl, vk_R.of (hts _ (List.mem_append_right _ (List.mem_of_getElem? (i := 474) (by decide +kernel)))) e4⟩
    · exact ⟨"odds", q5, by rw [hσ]; rfl, vk_R.of (hts _ (List.mem_append_right _ (List.mem_of_getElem? (i := 475) (by decide +kernel)))) e5⟩
    · exact ⟨"pace", q7, by rw [hσ]; rfl, vk_R.of (hts _ (List.mem_append_right _ (List.mem_of_getElem? (i := 481) (by decide +kernel)))) e7⟩
    · exact ⟨"spills", q8, by rw [hσ]; rfl, vk_R.of (hts _ (List.mem_append_right _ (List.mem_of_getElem? (i := 482) (by decide +kernel)))) e8⟩
    · exact ⟨"fire", q11, by rw [hσ]; rfl, vk_R.of (hts _ (List.mem_append_right _ (List.mem_of_getElem? (i := 501) (by decide +kernel)))) e11⟩
    · exact ⟨"heat", q12, by rw [hσ]; rfl, vk_R.of (hts _ (List.mem_append_right _ (List.mem_of_getElem? (i := 502) (by decide +kernel)))) e12⟩
    · exact ⟨"grows", q13, by rw [hσ]; rfl, vk_R.of (hts _ (List.mem_append_right _ (List.mem_of_getElem? (i := 503) (by decide +kernel)))) e13⟩
    · exact ⟨"brigade", q0, by rw [hσ]; rfl, vk_R.of (hts _ (List.mem_append_right _ (List.mem_of_getElem? (i := 1450) (by decide +kernel)))) (sm_0 hs e0)⟩
    · exact ⟨"seconds", q1, by rw [hσ]; rfl, vk_R.of (hts _ (List.mem_append_right _ (List.mem_of_getElem? (i := 1469) (by decide +kernel)))) (sm_1 hs e1)⟩
    · exact ⟨"buckets", q2, by rw [hσ]; rfl, vk_R.of (hts _ (List.mem_append_right _ (List.mem_of_getElem? (i := 1478) (by decide +kernel)))) (sm_2 hs e2)⟩
    · exact ⟨"size", q3, by rw [hσ]; rfl, vk_R.of (hts _ (List.mem_append_right _ (List.mem_of_getElem? (i := 1479) (by decide +kernel)))) (sm_3 hs e3)⟩
    · exact ⟨"back", q4, by rw [hσ]; rfl, vk_R.of (hts _ (List.mem_append_right _ (List.mem_of_getElem? (i := 1480) (by decide +kernel)))) (sm_4 hs e4)⟩
    · exact ⟨"odds", q5, by rw [hσ]; rfl, vk_R.of (hts _ (List.mem_append_right _ (List.mem_of_getElem? (i := 1481) (by decide +kernel)))) (sm_5 hs e5)⟩
    · exact ⟨"together", q9, by rw [hσ]; rfl, vk_R.of (hts _ (List.mem_append_right _ (List.mem_of_getElem? (i := 1486) (by decide +kernel)))) (sm_9 hs e9)⟩
    · exact ⟨"apart", q10, by rw [hσ]; rfl, vk_R.of (hts _ (List.mem_append_right _ (List.mem_of_getElem? (i := 1487) (by decide +kernel)))) (sm_10 hs e10)⟩
    · exact ⟨"hand", q6, by rw [hσ]; rfl, vk_R.of (hts _ (List.mem_append_right _ (List.mem_of_getElem? (i := 1488) (by decide +kernel)))) (sm_6 hs e6)⟩
    · exact ⟨"fire", q11, by rw [hσ]; rfl, vk_R.of (hts _ (List.mem_append_right _ (List.mem_of_getElem? (i := 1489) (by decide +kernel)))) (sm_11 hs e11)⟩
    · exact ⟨"pace", q7, by rw [hσ]; rfl, vk_R.of (hts _ (List.mem_append_right _ (List.mem_of_getElem? (i := 1490) (by decide +kernel)))) (sm_7 hs e7)⟩
    · exact ⟨"spills", q8, by rw [hσ]; rfl, vk_R.of (hts _ (List.mem_append_right _ (List.mem_of_getElem? (i := 1491) (by decide +kernel)))) (sm_8 hs e8)⟩
    · exact ⟨"heat", q12, by rw [hσ]; rfl, vk_R.of (hts _ (List.mem_append_right _ (List.mem_of_getElem? (i := 1496) (by decide +kernel)))) (sm_12 hs e12)⟩
    · exact ⟨"grows", q13, by rw [hσ]; rfl, vk_R.of (hts _ (List.mem_append_right _ (List.mem_of_getElem? (i := 1497) (by decide +kernel)))) (sm_13 hs e13)⟩
  · have hi : i < 14 := hi
    match i, hi with
    | 0, _ => exact ⟨q0, v0, by rw [hσ]; rfl, by rw [hσ]; rfl, z0⟩
    | 1, _ => exact ⟨q1, v1, by rw [hσ]; rfl, by rw [hσ]; rfl, z1⟩
    | 2, _ => exact ⟨q2, v2, by rw [hσ]; rfl, by rw [hσ]; rfl, z2⟩
    | 3, _ => exact ⟨q3, v3, by rw [hσ]; rfl, by rw [hσ]; rfl, z3⟩
    | 4, _ => exact ⟨q4, v4, by rw [hσ]; rfl, by rw [hσ]; rfl, z4⟩
    | 5, _ => exact ⟨q5, v5, by rw [hσ]; rfl, by rw [hσ]; rfl, z5⟩
    | 6, _ => exact ⟨q6, v6, by rw [hσ]; rfl, by rw [hσ]; rfl, z6⟩
    | 7, _ => exact ⟨q7, v7, by rw [hσ]; rfl, by rw [hσ]; rfl, z7⟩
    | 8, _ => exact ⟨q8, v8, by rw [hσ]; rfl, by rw [hσ]; rfl, z8⟩
    | 9, _ => exact ⟨q9, v9, by rw [hσ]; rfl, by rw [hσ]; rfl, z9⟩
    | 10, _ => exact ⟨q10, v10, by rw [hσ]; rfl, by rw [hσ]; rfl, z10⟩
    | 11, _ => exact ⟨q11, v11, by rw [hσ]; rfl, by rw [hσ]; rfl, z11⟩
    | 12, _ => exact ⟨q12, v12, by rw [hσ]; rfl, by rw [hσ]; rfl, z12⟩
    | 13, _ => exact ⟨q13, v13, by rw [hσ]; rfl, by rw [hσ]; rfl, z13⟩
    | n + 14, h => omega
