/-! the two objects, as they are made, are a world of the plain machine -/
def wX (g : Nat → Nat) (a : Nat → ClassId) : va_W := [((g 0), .inr (8, [.ref (g 1), .ref (g 2), .ref (g 4), .ref (g 16), .ref (g 64), .ref (g 65), .ref (g 66), .ref (g 70), .ref (g 75), .ref (g 87), .ref (g 94), .int 0, .int 0, .int 0])), ((g 1), .inr (4, [.ref (g 2), .int 0, .int (-1), .int 5, .int 0, .int 0, .int 0])), ((g 2), .inr (7, [.ref (g 3), .int 0])), ((g 3), .inl ((a 3), 500, .inl (fun _ => 0))), ((g 4), .inr (1, [.ref (g 5), .ref (g 6), .ref (g 7), .ref (g 8), .ref (g 9), .ref (g 10), .ref (g 11), .ref (g 12), .ref (g 13), .ref (g 14), .ref (g 15)])), ((g 5), .inl ((a 5), 11, .inl (fun _ => 0))), ((g 6), .inl ((a 6), 6, .inl (fun _ => 0))), ((g 7), .inl ((a 7), 6, .inl (fun _ => 0))), ((g 8), .inl ((a 8), 6, .inl (fun _ => 0))), ((g 9), .inl ((a 9), 6, .inr (.inl (fun _ => 0)))), ((g 10), .inl ((a 10), 5, .inl (fun _ => 0))), ((g 11), .inl ((a 11), 5, .inl (fun _ => 0))), ((g 12), .inl ((a 12), 5, .inl (fun _ => 0))), ((g 13), .inl ((a 13), 30, .inl (fun _ => 0))), ((g 14), .inl ((a 14), 30, .inl (fun _ => 0))), ((g 15), .inl ((a 15), 30, .inl (fun _ => 0))), ((g 16), .inr (1, [.ref (g 17), .ref (g 18), .ref (g 19), .ref (g 20), .ref (g 21), .ref (g 22), .ref (g 23), .ref (g 24), .ref (g 25), .ref (g 26), .ref (g 27)])), ((g 17), .inl ((a 17), 11, .inl (fun _ => 0))), ((g 18), .inl ((a 18), 6, .inl (fun _ => 0))), ((g 19), .inl ((a 19), 6, .inl (fun _ => 0))), ((g 20), .inl ((a 20), 6, .inl (fun _ => 0))), ((g 21), .inl ((a 21), 6, .inr (.inl (fun _ => 0)))), ((g 22), .inl ((a 22), 5, .inl (fun _ => 0))), ((g 23), .inl ((a 23), 5, .inl (fun _ => 0))), ((g 24), .inl ((a 24), 5, .inl (fun _ => 0))), ((g 25), .inl ((a 25), 30, .inl (fun _ => 0))), ((g 26), .inl ((a 26), 30, .inl (fun _ => 0))), ((g 27), .inl ((a 27), 30, .inl (fun _ => 0))), ((g 28), .inr (1, [.ref (g 29), .ref (g 30), .ref (g 31), .ref (g 32), .ref (g 33), .ref (g 34), .ref (g 35), .ref (g 36), .ref (g 37), .ref (g 38), .ref (g 39)])), ((g 29), .inl ((a 29), 11, .inl (fun _ => 0))), ((g 30), .inl ((a 30), 6, .inl (fun _ => 0))), ((g 31), .inl ((a 31), 6, .inl (fun _ => 0))), ((g 32), .inl ((a 32), 6, .inl (fun _ => 0))), ((g 33), .inl ((a 33), 6, .inr (.inl (fun _ => 0)))), ((g 34), .inl ((a 34), 5, .inl (fun _ => 0))), ((g 35), .inl ((a 35), 5, .inl (fun _ => 0))), ((g 36), .inl ((a 36), 5, .inl (fun _ => 0))), ((g 37), .inl ((a 37), 30, .inl (fun _ => 0))), ((g 38), .inl ((a 38), 30, .inl (fun _ => 0))), ((g 39), .inl ((a 39), 30, .inl (fun _ => 0))), ((g 40), .inr (1, [.ref (g 41), .ref (g 42), .ref (g 43), .ref (g 44), .ref (g 45), .ref (g 46), .ref (g 47), .ref (g 48), .ref (g 49), .ref (g 50), .ref (g 51)])), ((g 41), .inl ((a 41), 11, .inl (fun _ => 0))), ((g 42), .inl ((a 42), 6, .inl (fun _ => 0))), ((g 43), .inl ((a 43), 6, .inl (fun _ => 0))), ((g 44), .inl ((a 44), 6, .inl (fun _ => 0))), ((g 45), .inl ((a 45), 6, .inr (.inl (fun _ => 0)))), ((g 46), .inl ((a 46), 5, .inl (fun _ => 0))), ((g 47), .inl ((a 47), 5, .inl (fun _ => 0))), ((g 48), .inl ((a 48), 5, .inl (fun _ => 0))), ((g 49), .inl ((a 49), 30, .inl (fun _ => 0))), ((g 50), .inl ((a 50), 30, .inl (fun _ => 0))), ((g 51), .inl ((a 51), 30, .inl (fun _ => 0))), ((g 52), .inr (1, [.ref (g 53), .ref (g 54), .ref (g 55), .ref (g 56), .ref (g 57), .ref (g 58), .ref (g 59), .ref (g 60), .ref (g 61), .ref (g 62), .ref (g 63)])), ((g 53), .inl ((a 53), 11, .inl (fun _ => 0))), ((g 54), .inl ((a 54), 6, .inl (fun _ => 0))), ((g 55), .inl ((a 55), 6, .inl (fun _ => 0))), ((g 56), .inl ((a 56), 6, .inl (fun _ => 0))), ((g 57), .inl ((a 57), 6, .inr (.inl (fun _ => 0)))), ((g 58), .inl ((a 58), 5, .inl (fun _ => 0))), ((g 59), .inl ((a 59), 5, .inl (fun _ => 0))), ((g 60), .inl ((a 60), 5, .inl (fun _ => 0))), ((g 61), .inl ((a 61), 30, .inl (fun _ => 0))), ((g 62), .inl ((a 62), 30, .inl (fun _ => 0))), ((g 63), .inl ((a 63), 30, .inl (fun _ => 0))), ((g 64), .inl ((a 64), 3, .inr (.inr (.inr (.inr (iF g)))))), ((g 65), .inl ((a 65), 3, .inl (fun _ => 0))), ((g 66), .inr (5, [.ref (g 67), .ref (g 68), .ref (g 69)])), ((g 67), .inl ((a 67), 240, .inr (.inl (fun _ => 0)))), ((g 68), .inl ((a 68), 4, .inl nF)), ((g 69), .inl ((a 69), 4, .inl (fun _ => 0))), ((g 70), .inr (2, [.ref (g 71), .ref (g 72), .ref (g 73), .ref (g 74), .int 0, .int 0, .int 0, .int 0, .int 0, .int 0])), ((g 71), .inl ((a 71), 6, .inl (fun _ => 0))), ((g 72), .inl ((a 72), 6, .inl (fun _ => 0))), ((g 73), .inl ((a 73), 6, .inr (.inl (fun _ => 0)))), ((g 74), .inl ((a 74), 6, .inl (fun _ => 0))), ((g 75), .inr (6, [.ref (g 76), .ref (g 77), .ref (g 78), .ref (g 79), .ref (g 80), .ref (g 81), .ref (g 82), .ref (g 83), .ref (g 84), .ref (g 85), .ref (g 86), .long 0, .int 0])), ((g 76), .inl ((a 76), 360, .inl (fun _ => 0))), ((g 77), .inl ((a 77), 60, .inl (fun _ => 0))), ((g 78), .inl ((a 78), 60, .inl (fun _ => 0))), ((g 79), .inl ((a 79), 60, .inl (fun _ => 0))), ((g 80), .inl ((a 80), 60, .inl (fun _ => 0))), ((g 81), .inl ((a 81), 60, .inl (fun _ => 0))), ((g 82), .inl ((a 82), 60, .inl (fun _ => 0))), ((g 83), .inl ((a 83), 60, .inl (fun _ => 0))), ((g 84), .inl ((a 84), 60, .inl (fun _ => 0))), ((g 85), .inl ((a 85), 60, .inl (fun _ => 0))), ((g 86), .inl ((a 86), 7, .inl (fun _ => 0))), ((g 87), .inr (3, [.ref (g 88), .ref (g 89), .ref (g 90), .ref (g 91), .ref (g 92), .ref (g 93), .int 0, .int 0, .int 0])), ((g 88), .inl ((a 88), 6, .inl (fun _ => 0))), ((g 89), .inl ((a 89), 6, .inl (fun _ => 0))), ((g 90), .inl ((a 90), 720, .inl (fun _ => 0))), ((g 91), .inl ((a 91), 720, .inr (.inl (fun _ => 0)))), ((g 92), .inl ((a 92), 720, .inl (fun _ => 0))), ((g 93), .inl ((a 93), 61, .inl (fun _ => 0))), ((g 94), .inr (0, [.ref (g 95), .int 0, .int 0])), ((g 95), .inl ((a 95), 256, .inr (.inl (fun _ => 0))))]
def wM (g : Nat → Nat) (a : Nat → ClassId) : va_W := [((g 0), .inr (9, oM g 0 0 0 0 0 0 (-1))), ((g 1), .inl ((a 1), 68, .inl (fun _ => 0))), ((g 2), .inl ((a 2), 204, .inl (fun _ => 0))), ((g 3), .inl ((a 3), 3, .inl (fun _ => 0))), ((g 4), .inl ((a 4), 500, .inl (fun _ => 0))), ((g 6), .inl ((a 6), 5, .inl (fun _ => 0))), ((g 14), .inl ((a 14), 68, .inl (fun _ => 0))), ((g 15), .inl ((a 15), 6, .inl (fun _ => 0))), ((g 16), .inl ((a 16), 360, .inl (fun _ => 0))), ((g 17), .inl ((a 17), 6, .inl (fun _ => 0))), ((g 21), .inl ((a 21), 60, .inl (fun _ => 0))), ((g 22), .inl ((a 22), 6, .inl (fun _ => 0))), ((g 23), .inl ((a 23), 6, .inl (fun _ => 0))), ((g 24), .inl ((a 24), 23, .inl (fun _ => 0))), ((g 25), .inl ((a 25), 360, .inl (fun _ => 0))), ((g 26), .inl ((a 26), 360, .inl (fun _ => 0))), ((g 27), .inl ((a 27), 60, .inl (fun _ => 0))), ((g 28), .inl ((a 28), 60, .inl (fun _ => 0))), ((g 29), .inl ((a 29), 60, .inl (fun _ => 0))), ((g 30), .inl ((a 30), 60, .inl (fun _ => 0))), ((g 31), .inl ((a 31), 60, .inl (fun _ => 0))), ((g 32), .inl ((a 32), 6, .inl (fun _ => 0))), ((g 33), .inl ((a 33), 6, .inl (fun _ => 0))), ((g 37), .inl ((a 37), 6, .inl (fun _ => 0))), ((g 38), .inl ((a 38), 60, .inl (fun _ => 0))), ((g 39), .inl ((a 39), 29, .inl (fun _ => 0))), ((g 40), .inl ((a 40), 29, .inl (fun _ => 0))), ((g 45), .inl ((a 45), 6, .inl (fun _ => 0))), ((g 49), .inl ((a 49), 4320, .inl (fun _ => 0))), ((g 50), .inl ((a 50), 43200, .inl (fun _ => 0))), ((g 53), .inl ((a 53), 64, .inl (fun _ => 0))), ((g 57), .inl ((a 57), 4, .inl nF)), ((g 58), .inl ((a 58), 4, .inl (fun _ => 0))), ((g 59), .inl ((a 59), 240, .inr (.inl (fun _ => 0)))), ((g 60), .inl ((a 60), 60, .inr (.inl (fun _ => 0))))]
def tX (a : Nat → ClassId) : List (ClassId × FieldType) := [((a 3), .byte), ((a 5), .int), ((a 6), .int), ((a 7), .int), ((a 8), .int), ((a 9), .long), ((a 10), .int), ((a 11), .int), ((a 12), .int), ((a 13), .int), ((a 14), .int), ((a 15), .int), ((a 17), .int), ((a 18), .int), ((a 19), .int), ((a 20), .int), ((a 21), .long), ((a 22), .int), ((a 23), .int), ((a 24), .int), ((a 25), .int), ((a 26), .int), ((a 27), .int), ((a 29), .int), ((a 30), .int), ((a 31), .int), ((a 32), .int), ((a 33), .long), ((a 34), .int), ((a 35), .int), ((a 36), .int), ((a 37), .int), ((a 38), .int), ((a 39), .int), ((a 41), .int), ((a 42), .int), ((a 43), .int), ((a 44), .int), ((a 45), .long), ((a 46), .int), ((a 47), .int), ((a 48), .int), ((a 49), .int), ((a 50), .int), ((a 51), .int), ((a 53), .int), ((a 54), .int), ((a 55), .int), ((a 56), .int), ((a 57), .long), ((a 58), .int), ((a 59), .int), ((a 60), .int), ((a 61), .int), ((a 62), .int), ((a 63), .int), ((a 64), (.object "HandLine$Crew")), ((a 65), .boolean), ((a 67), .long), ((a 68), .int), ((a 69), .int), ((a 71), .int), ((a 72), .int), ((a 73), .long), ((a 74), .int), ((a 76), .int), ((a 77), .int), ((a 78), .int), ((a 79), .int), ((a 80), .int), ((a 81), .int), ((a 82), .int), ((a 83), .int), ((a 84), .int), ((a 85), .int), ((a 86), .int), ((a 88), .int), ((a 89), .int), ((a 90), .int), ((a 91), .long), ((a 92), .int), ((a 93), .int), ((a 95), .long)]
def tM (a : Nat → ClassId) : List (ClassId × FieldType) := [((a 1), .int), ((a 2), .int), ((a 3), .boolean), ((a 4), .byte), ((a 6), .int), ((a 14), .int), ((a 15), .int), ((a 16), .boolean), ((a 17), .int), ((a 21), .boolean), ((a 22), .int), ((a 23), .int), ((a 24), .int), ((a 25), .int), ((a 26), .int), ((a 27), .int), ((a 28), .int), ((a 29), .int), ((a 30), .int), ((a 31), .int), ((a 32), .int), ((a 33), .int), ((a 37), .int), ((a 38), .int), ((a 39), .int), ((a 40), .int), ((a 45), .int), ((a 49), .byte), ((a 50), .byte), ((a 53), .int), ((a 57), .int), ((a 58), .int), ((a 59), .long), ((a 60), .long)]
def MF : List Nat := [0, 1, 2, 3, 4, 6, 14, 15, 16, 17, 21, 22, 23, 24, 25, 26, 27, 28, 29, 30, 31, 32, 33, 37, 38, 39, 40, 45, 49, 50, 53, 57, 58, 59, 60]
def rho (gx gm : Nat → Nat) : Nat → Nat := fun k => if k < 96 then gx k else gm (MF.getD (k - 96) 0)
def ph0 : PH := (fun k => if k = 1 then (fun j => if j = 2 then -1 else if j = 3 then 5 else 0) else if k = 68 then nF else if k = 96 then (fun j => if j = 13 then -1 else 0) else if k = 127 then nF else fun _ => 0, fun _ _ => 0)
def clA (ax : Nat → ClassId) : Nat → ClassId := fun t => ([ax 5, ax 3, ax 65, ax 9, ax 64] : List Nat).getD t 0
theorem ra_int {s : State} {c c' : ClassId} (h : va_RA s c .int) (h' : va_RA s c' .int) : c = c' := Option.some.inj ((show s.vm.findClass ("[" ++ FieldType.int.toString) = some c from h).symm.trans h')
theorem ra_byte {s : State} {c c' : ClassId} (h : va_RA s c .byte) (h' : va_RA s c' .byte) : c = c' := Option.some.inj ((show s.vm.findClass ("[" ++ FieldType.byte.toString) = some c from h).symm.trans h')
theorem ra_boolean {s : State} {c c' : ClassId} (h : va_RA s c .boolean) (h' : va_RA s c' .boolean) : c = c' := Option.some.inj ((show s.vm.findClass ("[" ++ FieldType.boolean.toString) = some c from h).symm.trans h')
theorem ra_long {s : State} {c c' : ClassId} (h : va_RA s c .long) (h' : va_RA s c' .long) : c = c' := Option.some.inj ((show s.vm.findClass ("[" ++ FieldType.long.toString) = some c from h).symm.trans h')
theorem D_key {A : Nat → Prop} {ws ws' : va_W} (key : ∀ (i : Nat) (p : Nat × va_E), ws'[i]? = some p → ∃ q, ws[i]? = some q ∧ q.1 = p.1) (h : va_D A ws) : va_D A ws' := by
  refine ⟨fun i j p q hp hq hpq => ?_, fun k q hq => ?_⟩
  · obtain ⟨p1, a1, b1⟩ := key i p hp
    obtain ⟨q1, a2, b2⟩ := key j q hq
    exact h.1 i j p1 q1 a1 a2 (by rw [b1, b2]; exact hpq)
  · obtain ⟨q1, a1, b1⟩ := key k q hq
    rw [← b1]
    exact h.2 k q1 a1
theorem arr3 {c : ClassId} {f g : Nat → Option Nat} (h0 : f 0 = g 0) (h1 : f 1 = g 1) (h2 : f 2 = g 2) : vp_cell c (3, .inr (.inr (.inr (.inr f)))) = vp_cell c (3, .inr (.inr (.inr (.inr g)))) := by
  show arrV c 3 (fun j => va_rf (f j)) = arrV c 3 (fun j => va_rf (g j))
  unfold arrV
  have : (fun j : Fin 3 => va_rf (f j.val)) = (fun j : Fin 3 => va_rf (g j.val)) := by
    funext j
    match j with
    | ⟨0, _⟩ => exact congrArg va_rf h0
    | ⟨1, _⟩ => exact congrArg va_rf h1
    | ⟨2, _⟩ => exact congrArg va_rf h2
  rw [this]
theorem toW_len {ρ : Nat → Nat} {a : Nat → ClassId} {h : PH} : (toW ρ a h).length = 131 := by unfold toW; rw [List.length_mapIdx]; rfl

set_option maxRecDepth 100000 in
theorem pb_0 {dC : Nat → ClassId} {dI : Nat → Nat → Nat} {s : State} {gx gm : Nat → Nat} {ax am : Nat → ClassId} {H : Heap} (hK : va_K (dC, dI) vwCl (tX ax ++ tM am) s) (hP : va_P (dC, dI) vwCl (wX gx ax ++ wM gm am) H) : ∀ q, (toW (rho gx gm) (clA ax) ph0)[0]? = some q → va_at (dC, dI) vwCl q H := fun q hq => by
  cases (toW_at sh_0).symm.trans hq
  exact hP 0 _ rfl
set_option maxRecDepth 100000 in
theorem pb_1 {dC : Nat → ClassId} {dI : Nat → Nat → Nat} {s : State} {gx gm : Nat → Nat} {ax am : Nat → ClassId} {H : Heap} (hK : va_K (dC, dI) vwCl (tX ax ++ tM am) s) (hP : va_P (dC, dI) vwCl (wX gx ax ++ wM gm am) H) : ∀ q, (toW (rho gx gm) (clA ax) ph0)[1]? = some q → va_at (dC, dI) vwCl q H := fun q hq => by
  cases (toW_at sh_1).symm.trans hq
  exact hP 1 _ rfl
set_option maxRecDepth 100000 in
theorem pb_2 {dC : Nat → ClassId} {dI : Nat → Nat → Nat} {s : State} {gx gm : Nat → Nat} {ax am : Nat → ClassId} {H : Heap} (hK : va_K (dC, dI) vwCl (tX ax ++ tM am) s) (hP : va_P (dC, dI) vwCl (wX gx ax ++ wM gm am) H) : ∀ q, (toW (rho gx gm) (clA ax) ph0)[2]? = some q → va_at (dC, dI) vwCl q H := fun q hq => by
  cases (toW_at sh_2).symm.trans hq
  exact hP 2 _ rfl
set_option maxRecDepth 100000 in
theorem pb_3 {dC : Nat → ClassId} {dI : Nat → Nat → Nat} {s : State} {gx gm : Nat → Nat} {ax am : Nat → ClassId} {H : Heap} (hK : va_K (dC, dI) vwCl (tX ax ++ tM am) s) (hP : va_P (dC, dI) vwCl (wX gx ax ++ wM gm am) H) : ∀ q, (toW (rho gx gm) (clA ax) ph0)[3]? = some q → va_at (dC, dI) vwCl q H := fun q hq => by
  cases (toW_at sh_3).symm.trans hq
  have z : H[gx 3]? = some (vp_cell (ax 3) (500, .inl (fun _ => 0))) := hP 3 _ rfl
  exact z
set_option maxRecDepth 100000 in
theorem pb_4 {dC : Nat → ClassId} {dI : Nat → Nat → Nat} {s : State} {gx gm : Nat → Nat} {ax am : Nat → ClassId} {H : Heap} (hK : va_K (dC, dI) vwCl (tX ax ++ tM am) s) (hP : va_P (dC, dI) vwCl (wX gx ax ++ wM gm am) H) : ∀ q, (toW (rho gx gm) (clA ax) ph0)[4]? = some q → va_at (dC, dI) vwCl q H := fun q hq => by
  cases (toW_at sh_4).symm.trans hq
  exact hP 4 _ rfl
set_option maxRecDepth 100000 in
theorem pb_5 {dC : Nat → ClassId} {dI : Nat → Nat → Nat} {s : State} {gx gm : Nat → Nat} {ax am : Nat → ClassId} {H : Heap} (hK : va_K (dC, dI) vwCl (tX ax ++ tM am) s) (hP : va_P (dC, dI) vwCl (wX gx ax ++ wM gm am) H) : ∀ q, (toW (rho gx gm) (clA ax) ph0)[5]? = some q → va_at (dC, dI) vwCl q H := fun q hq => by
  cases (toW_at sh_5).symm.trans hq
  have z : H[gx 5]? = some (vp_cell (ax 5) (11, .inl (fun _ => 0))) := hP 5 _ rfl
  exact z
set_option maxRecDepth 100000 in
theorem pb_6 {dC : Nat → ClassId} {dI : Nat → Nat → Nat} {s : State} {gx gm : Nat → Nat} {ax am : Nat → ClassId} {H : Heap} (hK : va_K (dC, dI) vwCl (tX ax ++ tM am) s) (hP : va_P (dC, dI) vwCl (wX gx ax ++ wM gm am) H) : ∀ q, (toW (rho gx gm) (clA ax) ph0)[6]? = some q → va_at (dC, dI) vwCl q H := fun q hq => by
  cases (toW_at sh_6).symm.trans hq
  have z : H[gx 6]? = some (vp_cell (ax 6) (6, .inl (fun _ => 0))) := hP 6 _ rfl
  rw [show ax 6 = ax 5 from ra_int (hK.2 2 _ rfl).2 (hK.2 1 _ rfl).2] at z
  exact z
set_option maxRecDepth 100000 in
theorem pb_7 {dC : Nat → ClassId} {dI : Nat → Nat → Nat} {s : State} {gx gm : Nat → Nat} {ax am : Nat → ClassId} {H : Heap} (hK : va_K (dC, dI) vwCl (tX ax ++ tM am) s) (hP : va_P (dC, dI) vwCl (wX gx ax ++ wM gm am) H) : ∀ q, (toW (rho gx gm) (clA ax) ph0)[7]? = some q → va_at (dC, dI) vwCl q H := fun q hq => by
  cases (toW_at sh_7).symm.trans hq
  have z : H[gx 7]? = some (vp_cell (ax 7) (6, .inl (fun _ => 0))) := hP 7 _ rfl
  rw [show ax 7 = ax 5 from ra_int (hK.2 3 _ rfl).2 (hK.2 1 _ rfl).2] at z
  exact z
set_option maxRecDepth 100000 in
theorem pb_8 {dC : Nat → ClassId} {dI : Nat → Nat → Nat} {s : State} {gx gm : Nat → Nat} {ax am : Nat → ClassId} {H : Heap} (hK : va_K (dC, dI) vwCl (tX ax ++ tM am) s) (hP : va_P (dC, dI) vwCl (wX gx ax ++ wM gm am) H) : ∀ q, (toW (rho gx gm) (clA ax) ph0)[8]? = some q → va_at (dC, dI) vwCl q H := fun q hq => by
  cases (toW_at sh_8).symm.trans hq
  have z : H[gx 8]? = some (vp_cell (ax 8) (6, .inl (fun _ => 0))) := hP 8 _ rfl
  rw [show ax 8 = ax 5 from ra_int (hK.2 4 _ rfl).2 (hK.2 1 _ rfl).2] at z
  exact z
set_option maxRecDepth 100000 in
theorem pb_9 {dC : Nat → ClassId} {dI : Nat → Nat → Nat} {s : State} {gx gm : Nat → Nat} {ax am : Nat → ClassId} {H : Heap} (hK : va_K (dC, dI) vwCl (tX ax ++ tM am) s) (hP : va_P (dC, dI) vwCl (wX gx ax ++ wM gm am) H) : ∀ q, (toW (rho gx gm) (clA ax) ph0)[9]? = some q → va_at (dC, dI) vwCl q H := fun q hq => by
  cases (toW_at sh_9).symm.trans hq
  have z : H[gx 9]? = some (vp_cell (ax 9) (6, .inr (.inl (fun _ => 0)))) := hP 9 _ rfl
  exact z
set_option maxRecDepth 100000 in
theorem pb_10 {dC : Nat → ClassId} {dI : Nat → Nat → Nat} {s : State} {gx gm : Nat → Nat} {ax am : Nat → ClassId} {H : Heap} (hK : va_K (dC, dI) vwCl (tX ax ++ tM am) s) (hP : va_P (dC, dI) vwCl (wX gx ax ++ wM gm am) H) : ∀ q, (toW (rho gx gm) (clA ax) ph0)[10]? = some q → va_at (dC, dI) vwCl q H := fun q hq => by
  cases (toW_at sh_10).symm.trans hq
  have z : H[gx 10]? = some (vp_cell (ax 10) (5, .inl (fun _ => 0))) := hP 10 _ rfl
  rw [show ax 10 = ax 5 from ra_int (hK.2 6 _ rfl).2 (hK.2 1 _ rfl).2] at z
  exact z
set_option maxRecDepth 100000 in
theorem pb_11 {dC : Nat → ClassId} {dI : Nat → Nat → Nat} {s : State} {gx gm : Nat → Nat} {ax am : Nat → ClassId} {H : Heap} (hK : va_K (dC, dI) vwCl (tX ax ++ tM am) s) (hP : va_P (dC, dI) vwCl (wX gx ax ++ wM gm am) H) : ∀ q, (toW (rho gx gm) (clA ax) ph0)[11]? = some q → va_at (dC, dI) vwCl q H := fun q hq => by
  cases (toW_at sh_11).symm.trans hq
  have z : H[gx 11]? = some (vp_cell (ax 11) (5, .inl (fun _ => 0))) := hP 11 _ rfl
  rw [show ax 11 = ax 5 from ra_int (hK.2 7 _ rfl).2 (hK.2 1 _ rfl).2] at z
  exact z
set_option maxRecDepth 100000 in
theorem pb_12 {dC : Nat → ClassId} {dI : Nat → Nat → Nat} {s : State} {gx gm : Nat → Nat} {ax am : Nat → ClassId} {H : Heap} (hK : va_K (dC, dI) vwCl (tX ax ++ tM am) s) (hP : va_P (dC, dI) vwCl (wX gx ax ++ wM gm am) H) : ∀ q, (toW (rho gx gm) (clA ax) ph0)[12]? = some q → va_at (dC, dI) vwCl q H := fun q hq => by
  cases (toW_at sh_12).symm.trans hq
  have z : H[gx 12]? = some (vp_cell (ax 12) (5, .inl (fun _ => 0))) := hP 12 _ rfl
  rw [show ax 12 = ax 5 from ra_int (hK.2 8 _ rfl).2 (hK.2 1 _ rfl).2] at z
  exact z
set_option maxRecDepth 100000 in
theorem pb_13 {dC : Nat → ClassId} {dI : Nat → Nat → Nat} {s : State} {gx gm : Nat → Nat} {ax am : Nat → ClassId} {H : Heap} (hK : va_K (dC, dI) vwCl (tX ax ++ tM am) s) (hP : va_P (dC, dI) vwCl (wX gx ax ++ wM gm am) H) : ∀ q, (toW (rho gx gm) (clA ax) ph0)[13]? = some q → va_at (dC, dI) vwCl q H := fun q hq => by
  cases (toW_at sh_13).symm.trans hq
  have z : H[gx 13]? = some (vp_cell (ax 13) (30, .inl (fun _ => 0))) := hP 13 _ rfl
  rw [show ax 13 = ax 5 from ra_int (hK.2 9 _ rfl).2 (hK.2 1 _ rfl).2] at z
  exact z
set_option maxRecDepth 100000 in
theorem pb_14 {dC : Nat → ClassId} {dI : Nat → Nat → Nat} {s : State} {gx gm : Nat → Nat} {ax am : Nat → ClassId} {H : Heap} (hK : va_K (dC, dI) vwCl (tX ax ++ tM am) s) (hP : va_P (dC, dI) vwCl (wX gx ax ++ wM gm am) H) : ∀ q, (toW (rho gx gm) (clA ax) ph0)[14]? = some q → va_at (dC, dI) vwCl q H := fun q hq => by
  cases (toW_at sh_14).symm.trans hq
  have z : H[gx 14]? = some (vp_cell (ax 14) (30, .inl (fun _ => 0))) := hP 14 _ rfl
  rw [show ax 14 = ax 5 from ra_int (hK.2 10 _ rfl).2 (hK.2 1 _ rfl).2] at z
  exact z
set_option maxRecDepth 100000 in
theorem pb_15 {dC : Nat → ClassId} {dI : Nat → Nat → Nat} {s : State} {gx gm : Nat → Nat} {ax am : Nat → ClassId} {H : Heap} (hK : va_K (dC, dI) vwCl (tX ax ++ tM am) s) (hP : va_P (dC, dI) vwCl (wX gx ax ++ wM gm am) H) : ∀ q, (toW (rho gx gm) (clA ax) ph0)[15]? = some q → va_at (dC, dI) vwCl q H := fun q hq => by
  cases (toW_at sh_15).symm.trans hq
  have z : H[gx 15]? = some (vp_cell (ax 15) (30, .inl (fun _ => 0))) := hP 15 _ rfl
  rw [show ax 15 = ax 5 from ra_int (hK.2 11 _ rfl).2 (hK.2 1 _ rfl).2] at z
  exact z
set_option maxRecDepth 100000 in
theorem pb_16 {dC : Nat → ClassId} {dI : Nat → Nat → Nat} {s : State} {gx gm : Nat → Nat} {ax am : Nat → ClassId} {H : Heap} (hK : va_K (dC, dI) vwCl (tX ax ++ tM am) s) (hP : va_P (dC, dI) vwCl (wX gx ax ++ wM gm am) H) : ∀ q, (toW (rho gx gm) (clA ax) ph0)[16]? = some q → va_at (dC, dI) vwCl q H := fun q hq => by
  cases (toW_at sh_16).symm.trans hq
  exact hP 16 _ rfl
set_option maxRecDepth 100000 in
theorem pb_17 {dC : Nat → ClassId} {dI : Nat → Nat → Nat} {s : State} {gx gm : Nat → Nat} {ax am : Nat → ClassId} {H : Heap} (hK : va_K (dC, dI) vwCl (tX ax ++ tM am) s) (hP : va_P (dC, dI) vwCl (wX gx ax ++ wM gm am) H) : ∀ q, (toW (rho gx gm) (clA ax) ph0)[17]? = some q → va_at (dC, dI) vwCl q H := fun q hq => by
  cases (toW_at sh_17).symm.trans hq
  have z : H[gx 17]? = some (vp_cell (ax 17) (11, .inl (fun _ => 0))) := hP 17 _ rfl
  rw [show ax 17 = ax 5 from ra_int (hK.2 12 _ rfl).2 (hK.2 1 _ rfl).2] at z
  exact z
set_option maxRecDepth 100000 in
theorem pb_18 {dC : Nat → ClassId} {dI : Nat → Nat → Nat} {s : State} {gx gm : Nat → Nat} {ax am : Nat → ClassId} {H : Heap} (hK : va_K (dC, dI) vwCl (tX ax ++ tM am) s) (hP : va_P (dC, dI) vwCl (wX gx ax ++ wM gm am) H) : ∀ q, (toW (rho gx gm) (clA ax) ph0)[18]? = some q → va_at (dC, dI) vwCl q H := fun q hq => by
  cases (toW_at sh_18).symm.trans hq
  have z : H[gx 18]? = some (vp_cell (ax 18) (6, .inl (fun _ => 0))) := hP 18 _ rfl
  rw [show ax 18 = ax 5 from ra_int (hK.2 13 _ rfl).2 (hK.2 1 _ rfl).2] at z
  exact z
set_option maxRecDepth 100000 in
theorem pb_19 {dC : Nat → ClassId} {dI : Nat → Nat → Nat} {s : State} {gx gm : Nat → Nat} {ax am : Nat → ClassId} {H : Heap} (hK : va_K (dC, dI) vwCl (tX ax ++ tM am) s) (hP : va_P (dC, dI) vwCl (wX gx ax ++ wM gm am) H) : ∀ q, (toW (rho gx gm) (clA ax) ph0)[19]? = some q → va_at (dC, dI) vwCl q H := fun q hq => by
  cases (toW_at sh_19).symm.trans hq
  have z : H[gx 19]? = some (vp_cell (ax 19) (6, .inl (fun _ => 0))) := hP 19 _ rfl
  rw [show ax 19 = ax 5 from ra_int (hK.2 14 _ rfl).2 (hK.2 1 _ rfl).2] at z
  exact z
set_option maxRecDepth 100000 in
theorem pb_20 {dC : Nat → ClassId} {dI : Nat → Nat → Nat} {s : State} {gx gm : Nat → Nat} {ax am : Nat → ClassId} {H : Heap} (hK : va_K (dC, dI) vwCl (tX ax ++ tM am) s) (hP : va_P (dC, dI) vwCl (wX gx ax ++ wM gm am) H) : ∀ q, (toW (rho gx gm) (clA ax) ph0)[20]? = some q → va_at (dC, dI) vwCl q H := fun q hq => by
  cases (toW_at sh_20).symm.trans hq
  have z : H[gx 20]? = some (vp_cell (ax 20) (6, .inl (fun _ => 0))) := hP 20 _ rfl
  rw [show ax 20 = ax 5 from ra_int (hK.2 15 _ rfl).2 (hK.2 1 _ rfl).2] at z
  exact z
set_option maxRecDepth 100000 in
theorem pb_21 {dC : Nat → ClassId} {dI : Nat → Nat → Nat} {s : State} {gx gm : Nat → Nat} {ax am : Nat → ClassId} {H : Heap} (hK : va_K (dC, dI) vwCl (tX ax ++ tM am) s) (hP : va_P (dC, dI) vwCl (wX gx ax ++ wM gm am) H) : ∀ q, (toW (rho gx gm) (clA ax) ph0)[21]? = some q → va_at (dC, dI) vwCl q H := fun q hq => by
  cases (toW_at sh_21).symm.trans hq
  have z : H[gx 21]? = some (vp_cell (ax 21) (6, .inr (.inl (fun _ => 0)))) := hP 21 _ rfl
  rw [show ax 21 = ax 9 from ra_long (hK.2 16 _ rfl).2 (hK.2 5 _ rfl).2] at z
  exact z
set_option maxRecDepth 100000 in
theorem pb_22 {dC : Nat → ClassId} {dI : Nat → Nat → Nat} {s : State} {gx gm : Nat → Nat} {ax am : Nat → ClassId} {H : Heap} (hK : va_K (dC, dI) vwCl (tX ax ++ tM am) s) (hP : va_P (dC, dI) vwCl (wX gx ax ++ wM gm am) H) : ∀ q, (toW (rho gx gm) (clA ax) ph0)[22]? = some q → va_at (dC, dI) vwCl q H := fun q hq => by
  cases (toW_at sh_22).symm.trans hq
  have z : H[gx 22]? = some (vp_cell (ax 22) (5, .inl (fun _ => 0))) := hP 22 _ rfl
  rw [show ax 22 = ax 5 from ra_int (hK.2 17 _ rfl).2 (hK.2 1 _ rfl).2] at z
  exact z
set_option maxRecDepth 100000 in
theorem pb_23 {dC : Nat → ClassId} {dI : Nat → Nat → Nat} {s : State} {gx gm : Nat → Nat} {ax am : Nat → ClassId} {H : Heap} (hK : va_K (dC, dI) vwCl (tX ax ++ tM am) s) (hP : va_P (dC, dI) vwCl (wX gx ax ++ wM gm am) H) : ∀ q, (toW (rho gx gm) (clA ax) ph0)[23]? = some q → va_at (dC, dI) vwCl q H := fun q hq => by
  cases (toW_at sh_23).symm.trans hq
  have z : H[gx 23]? = some (vp_cell (ax 23) (5, .inl (fun _ => 0))) := hP 23 _ rfl
  rw [show ax 23 = ax 5 from ra_int (hK.2 18 _ rfl).2 (hK.2 1 _ rfl).2] at z
  exact z
set_option maxRecDepth 100000 in
theorem pb_24 {dC : Nat → ClassId} {dI : Nat → Nat → Nat} {s : State} {gx gm : Nat → Nat} {ax am : Nat → ClassId} {H : Heap} (hK : va_K (dC, dI) vwCl (tX ax ++ tM am) s) (hP : va_P (dC, dI) vwCl (wX gx ax ++ wM gm am) H) : ∀ q, (toW (rho gx gm) (clA ax) ph0)[24]? = some q → va_at (dC, dI) vwCl q H := fun q hq => by
  cases (toW_at sh_24).symm.trans hq
  have z : H[gx 24]? = some (vp_cell (ax 24) (5, .inl (fun _ => 0))) := hP 24 _ rfl
  rw [show ax 24 = ax 5 from ra_int (hK.2 19 _ rfl).2 (hK.2 1 _ rfl).2] at z
  exact z
set_option maxRecDepth 100000 in
theorem pb_25 {dC : Nat → ClassId} {dI : Nat → Nat → Nat} {s : State} {gx gm : Nat → Nat} {ax am : Nat → ClassId} {H : Heap} (hK : va_K (dC, dI) vwCl (tX ax ++ tM am) s) (hP : va_P (dC, dI) vwCl (wX gx ax ++ wM gm am) H) : ∀ q, (toW (rho gx gm) (clA ax) ph0)[25]? = some q → va_at (dC, dI) vwCl q H := fun q hq => by
  cases (toW_at sh_25).symm.trans hq
  have z : H[gx 25]? = some (vp_cell (ax 25) (30, .inl (fun _ => 0))) := hP 25 _ rfl
  rw [show ax 25 = ax 5 from ra_int (hK.2 20 _ rfl).2 (hK.2 1 _ rfl).2] at z
  exact z
set_option maxRecDepth 100000 in
theorem pb_26 {dC : Nat → ClassId} {dI : Nat → Nat → Nat} {s : State} {gx gm : Nat → Nat} {ax am : Nat → ClassId} {H : Heap} (hK : va_K (dC, dI) vwCl (tX ax ++ tM am) s) (hP : va_P (dC, dI) vwCl (wX gx ax ++ wM gm am) H) : ∀ q, (toW (rho gx gm) (clA ax) ph0)[26]? = some q → va_at (dC, dI) vwCl q H := fun q hq => by
  cases (toW_at sh_26).symm.trans hq
  have z : H[gx 26]? = some (vp_cell (ax 26) (30, .inl (fun _ => 0))) := hP 26 _ rfl
  rw [show ax 26 = ax 5 from ra_int (hK.2 21 _ rfl).2 (hK.2 1 _ rfl).2] at z
  exact z
set_option maxRecDepth 100000 in
theorem pb_27 {dC : Nat → ClassId} {dI : Nat → Nat → Nat} {s : State} {gx gm : Nat → Nat} {ax am : Nat → ClassId} {H : Heap} (hK : va_K (dC, dI) vwCl (tX ax ++ tM am) s) (hP : va_P (dC, dI) vwCl (wX gx ax ++ wM gm am) H) : ∀ q, (toW (rho gx gm) (clA ax) ph0)[27]? = some q → va_at (dC, dI) vwCl q H := fun q hq => by
  cases (toW_at sh_27).symm.trans hq
  have z : H[gx 27]? = some (vp_cell (ax 27) (30, .inl (fun _ => 0))) := hP 27 _ rfl
  rw [show ax 27 = ax 5 from ra_int (hK.2 22 _ rfl).2 (hK.2 1 _ rfl).2] at z
  exact z
set_option maxRecDepth 100000 in
theorem pb_28 {dC : Nat → ClassId} {dI : Nat → Nat → Nat} {s : State} {gx gm : Nat → Nat} {ax am : Nat → ClassId} {H : Heap} (hK : va_K (dC, dI) vwCl (tX ax ++ tM am) s) (hP : va_P (dC, dI) vwCl (wX gx ax ++ wM gm am) H) : ∀ q, (toW (rho gx gm) (clA ax) ph0)[28]? = some q → va_at (dC, dI) vwCl q H := fun q hq => by
  cases (toW_at sh_28).symm.trans hq
  exact hP 28 _ rfl
set_option maxRecDepth 100000 in
theorem pb_29 {dC : Nat → ClassId} {dI : Nat → Nat → Nat} {s : State} {gx gm : Nat → Nat} {ax am : Nat → ClassId} {H : Heap} (hK : va_K (dC, dI) vwCl (tX ax ++ tM am) s) (hP : va_P (dC, dI) vwCl (wX gx ax ++ wM gm am) H) : ∀ q, (toW (rho gx gm) (clA ax) ph0)[29]? = some q → va_at (dC, dI) vwCl q H := fun q hq => by
  cases (toW_at sh_29).symm.trans hq
  have z : H[gx 29]? = some (vp_cell (ax 29) (11, .inl (fun _ => 0))) := hP 29 _ rfl
  rw [show ax 29 = ax 5 from ra_int (hK.2 23 _ rfl).2 (hK.2 1 _ rfl).2] at z
  exact z
set_option maxRecDepth 100000 in
theorem pb_30 {dC : Nat → ClassId} {dI : Nat → Nat → Nat} {s : State} {gx gm : Nat → Nat} {ax am : Nat → ClassId} {H : Heap} (hK : va_K (dC, dI) vwCl (tX ax ++ tM am) s) (hP : va_P (dC, dI) vwCl (wX gx ax ++ wM gm am) H) : ∀ q, (toW (rho gx gm) (clA ax) ph0)[30]? = some q → va_at (dC, dI) vwCl q H := fun q hq => by
  cases (toW_at sh_30).symm.trans hq
  have z : H[gx 30]? = some (vp_cell (ax 30) (6, .inl (fun _ => 0))) := hP 30 _ rfl
  rw [show ax 30 = ax 5 from ra_int (hK.2 24 _ rfl).2 (hK.2 1 _ rfl).2] at z
  exact z
set_option maxRecDepth 100000 in
theorem pb_31 {dC : Nat → ClassId} {dI : Nat → Nat → Nat} {s : State} {gx gm : Nat → Nat} {ax am : Nat → ClassId} {H : Heap} (hK : va_K (dC, dI) vwCl (tX ax ++ tM am) s) (hP : va_P (dC, dI) vwCl (wX gx ax ++ wM gm am) H) : ∀ q, (toW (rho gx gm) (clA ax) ph0)[31]? = some q → va_at (dC, dI) vwCl q H := fun q hq => by
  cases (toW_at sh_31).symm.trans hq
  have z : H[gx 31]? = some (vp_cell (ax 31) (6, .inl (fun _ => 0))) := hP 31 _ rfl
  rw [show ax 31 = ax 5 from ra_int (hK.2 25 _ rfl).2 (hK.2 1 _ rfl).2] at z
  exact z
set_option maxRecDepth 100000 in
theorem pb_32 {dC : Nat → ClassId} {dI : Nat → Nat → Nat} {s : State} {gx gm : Nat → Nat} {ax am : Nat → ClassId} {H : Heap} (hK : va_K (dC, dI) vwCl (tX ax ++ tM am) s) (hP : va_P (dC, dI) vwCl (wX gx ax ++ wM gm am) H) : ∀ q, (toW (rho gx gm) (clA ax) ph0)[32]? = some q → va_at (dC, dI) vwCl q H := fun q hq => by
  cases (toW_at sh_32).symm.trans hq
  have z : H[gx 32]? = some (vp_cell (ax 32) (6, .inl (fun _ => 0))) := hP 32 _ rfl
  rw [show ax 32 = ax 5 from ra_int (hK.2 26 _ rfl).2 (hK.2 1 _ rfl).2] at z
  exact z
set_option maxRecDepth 100000 in
theorem pb_33 {dC : Nat → ClassId} {dI : Nat → Nat → Nat} {s : State} {gx gm : Nat → Nat} {ax am : Nat → ClassId} {H : Heap} (hK : va_K (dC, dI) vwCl (tX ax ++ tM am) s) (hP : va_P (dC, dI) vwCl (wX gx ax ++ wM gm am) H) : ∀ q, (toW (rho gx gm) (clA ax) ph0)[33]? = some q → va_at (dC, dI) vwCl q H := fun q hq => by
  cases (toW_at sh_33).symm.trans hq
  have z : H[gx 33]? = some (vp_cell (ax 33) (6, .inr (.inl (fun _ => 0)))) := hP 33 _ rfl
  rw [show ax 33 = ax 9 from ra_long (hK.2 27 _ rfl).2 (hK.2 5 _ rfl).2] at z
  exact z
set_option maxRecDepth 100000 in
theorem pb_34 {dC : Nat → ClassId} {dI : Nat → Nat → Nat} {s : State} {gx gm : Nat → Nat} {ax am : Nat → ClassId} {H : Heap} (hK : va_K (dC, dI) vwCl (tX ax ++ tM am) s) (hP : va_P (dC, dI) vwCl (wX gx ax ++ wM gm am) H) : ∀ q, (toW (rho gx gm) (clA ax) ph0)[34]? = some q → va_at (dC, dI) vwCl q H := fun q hq => by
  cases (toW_at sh_34).symm.trans hq
  have z : H[gx 34]? = some (vp_cell (ax 34) (5, .inl (fun _ => 0))) := hP 34 _ rfl
  rw [show ax 34 = ax 5 from ra_int (hK.2 28 _ rfl).2 (hK.2 1 _ rfl).2] at z
  exact z
set_option maxRecDepth 100000 in
theorem pb_35 {dC : Nat → ClassId} {dI : Nat → Nat → Nat} {s : State} {gx gm : Nat → Nat} {ax am : Nat → ClassId} {H : Heap} (hK : va_K (dC, dI) vwCl (tX ax ++ tM am) s) (hP : va_P (dC, dI) vwCl (wX gx ax ++ wM gm am) H) : ∀ q, (toW (rho gx gm) (clA ax) ph0)[35]? = some q → va_at (dC, dI) vwCl q H := fun q hq => by
  cases (toW_at sh_35).symm.trans hq
  have z : H[gx 35]? = some (vp_cell (ax 35) (5, .inl (fun _ => 0))) := hP 35 _ rfl
  rw [show ax 35 = ax 5 from ra_int (hK.2 29 _ rfl).2 (hK.2 1 _ rfl).2] at z
  exact z
set_option maxRecDepth 100000 in
theorem pb_36 {dC : Nat → ClassId} {dI : Nat → Nat → Nat} {s : State} {gx gm : Nat → Nat} {ax am : Nat → ClassId} {H : Heap} (hK : va_K (dC, dI) vwCl (tX ax ++ tM am) s) (hP : va_P (dC, dI) vwCl (wX gx ax ++ wM gm am) H) : ∀ q, (toW (rho gx gm) (clA ax) ph0)[36]? = some q → va_at (dC, dI) vwCl q H := fun q hq => by
  cases (toW_at sh_36).symm.trans hq
  have z : H[gx 36]? = some (vp_cell (ax 36) (5, .inl (fun _ => 0))) := hP 36 _ rfl
  rw [show ax 36 = ax 5 from ra_int (hK.2 30 _ rfl).2 (hK.2 1 _ rfl).2] at z
  exact z
set_option maxRecDepth 100000 in
theorem pb_37 {dC : Nat → ClassId} {dI : Nat → Nat → Nat} {s : State} {gx gm : Nat → Nat} {ax am : Nat → ClassId} {H : Heap} (hK : va_K (dC, dI) vwCl (tX ax ++ tM am) s) (hP : va_P (dC, dI) vwCl (wX gx ax ++ wM gm am) H) : ∀ q, (toW (rho gx gm) (clA ax) ph0)[37]? = some q → va_at (dC, dI) vwCl q H := fun q hq => by
  cases (toW_at sh_37).symm.trans hq
  have z : H[gx 37]? = some (vp_cell (ax 37) (30, .inl (fun _ => 0))) := hP 37 _ rfl
  rw [show ax 37 = ax 5 from ra_int (hK.2 31 _ rfl).2 (hK.2 1 _ rfl).2] at z
  exact z
set_option maxRecDepth 100000 in
theorem pb_38 {dC : Nat → ClassId} {dI : Nat → Nat → Nat} {s : State} {gx gm : Nat → Nat} {ax am : Nat → ClassId} {H : Heap} (hK : va_K (dC, dI) vwCl (tX ax ++ tM am) s) (hP : va_P (dC, dI) vwCl (wX gx ax ++ wM gm am) H) : ∀ q, (toW (rho gx gm) (clA ax) ph0)[38]? = some q → va_at (dC, dI) vwCl q H := fun q hq => by
  cases (toW_at sh_38).symm.trans hq
  have z : H[gx 38]? = some (vp_cell (ax 38) (30, .inl (fun _ => 0))) := hP 38 _ rfl
  rw [show ax 38 = ax 5 from ra_int (hK.2 32 _ rfl).2 (hK.2 1 _ rfl).2] at z
  exact z
set_option maxRecDepth 100000 in
theorem pb_39 {dC : Nat → ClassId} {dI : Nat → Nat → Nat} {s : State} {gx gm : Nat → Nat} {ax am : Nat → ClassId} {H : Heap} (hK : va_K (dC, dI) vwCl (tX ax ++ tM am) s) (hP : va_P (dC, dI) vwCl (wX gx ax ++ wM gm am) H) : ∀ q, (toW (rho gx gm) (clA ax) ph0)[39]? = some q → va_at (dC, dI) vwCl q H := fun q hq => by
  cases (toW_at sh_39).symm.trans hq
  have z : H[gx 39]? = some (vp_cell (ax 39) (30, .inl (fun _ => 0))) := hP 39 _ rfl
  rw [show ax 39 = ax 5 from ra_int (hK.2 33 _ rfl).2 (hK.2 1 _ rfl).2] at z
  exact z
set_option maxRecDepth 100000 in
theorem pb_40 {dC : Nat → ClassId} {dI : Nat → Nat → Nat} {s : State} {gx gm : Nat → Nat} {ax am : Nat → ClassId} {H : Heap} (hK : va_K (dC, dI) vwCl (tX ax ++ tM am) s) (hP : va_P (dC, dI) vwCl (wX gx ax ++ wM gm am) H) : ∀ q, (toW (rho gx gm) (clA ax) ph0)[40]? = some q → va_at (dC, dI) vwCl q H := fun q hq => by
  cases (toW_at sh_40).symm.trans hq
  exact hP 40 _ rfl
set_option maxRecDepth 100000 in
theorem pb_41 {dC : Nat → ClassId} {dI : Nat → Nat → Nat} {s : State} {gx gm : Nat → Nat} {ax am : Nat → ClassId} {H : Heap} (hK : va_K (dC, dI) vwCl (tX ax ++ tM am) s) (hP : va_P (dC, dI) vwCl (wX gx ax ++ wM gm am) H) : ∀ q, (toW (rho gx gm) (clA ax) ph0)[41]? = some q → va_at (dC, dI) vwCl q H := fun q hq => by
  cases (toW_at sh_41).symm.trans hq
  have z : H[gx 41]? = some (vp_cell (ax 41) (11, .inl (fun _ => 0))) := hP 41 _ rfl
  rw [show ax 41 = ax 5 from ra_int (hK.2 34 _ rfl).2 (hK.2 1 _ rfl).2] at z
  exact z
set_option maxRecDepth 100000 in
theorem pb_42 {dC : Nat → ClassId} {dI : Nat → Nat → Nat} {s : State} {gx gm : Nat → Nat} {ax am : Nat → ClassId} {H : Heap} (hK : va_K (dC, dI) vwCl (tX ax ++ tM am) s) (hP : va_P (dC, dI) vwCl (wX gx ax ++ wM gm am) H) : ∀ q, (toW (rho gx gm) (clA ax) ph0)[42]? = some q → va_at (dC, dI) vwCl q H := fun q hq => by
  cases (toW_at sh_42).symm.trans hq
  have z : H[gx 42]? = some (vp_cell (ax 42) (6, .inl (fun _ => 0))) := hP 42 _ rfl
  rw [show ax 42 = ax 5 from ra_int (hK.2 35 _ rfl).2 (hK.2 1 _ rfl).2] at z
  exact z
set_option maxRecDepth 100000 in
theorem pb_43 {dC : Nat → ClassId} {dI : Nat → Nat → Nat} {s : State} {gx gm : Nat → Nat} {ax am : Nat → ClassId} {H : Heap} (hK : va_K (dC, dI) vwCl (tX ax ++ tM am) s) (hP : va_P (dC, dI) vwCl (wX gx ax ++ wM gm am) H) : ∀ q, (toW (rho gx gm) (clA ax) ph0)[43]? = some q → va_at (dC, dI) vwCl q H := fun q hq => by
  cases (toW_at sh_43).symm.trans hq
  have z : H[gx 43]? = some (vp_cell (ax 43) (6, .inl (fun _ => 0))) := hP 43 _ rfl
  rw [show ax 43 = ax 5 from ra_int (hK.2 36 _ rfl).2 (hK.2 1 _ rfl).2] at z
  exact z
set_option maxRecDepth 100000 in
theorem pb_44 {dC : Nat → ClassId} {dI : Nat → Nat → Nat} {s : State} {gx gm : Nat → Nat} {ax am : Nat → ClassId} {H : Heap} (hK : va_K (dC, dI) vwCl (tX ax ++ tM am) s) (hP : va_P (dC, dI) vwCl (wX gx ax ++ wM gm am) H) : ∀ q, (toW (rho gx gm) (clA ax) ph0)[44]? = some q → va_at (dC, dI) vwCl q H := fun q hq => by
  cases (toW_at sh_44).symm.trans hq
  have z : H[gx 44]? = some (vp_cell (ax 44) (6, .inl (fun _ => 0))) := hP 44 _ rfl
  rw [show ax 44 = ax 5 from ra_int (hK.2 37 _ rfl).2 (hK.2 1 _ rfl).2] at z
  exact z
set_option maxRecDepth 100000 in
theorem pb_45 {dC : Nat → ClassId} {dI : Nat → Nat → Nat} {s : State} {gx gm : Nat → Nat} {ax am : Nat → ClassId} {H : Heap} (hK : va_K (dC, dI) vwCl (tX ax ++ tM am) s) (hP : va_P (dC, dI) vwCl (wX gx ax ++ wM gm am) H) : ∀ q, (toW (rho gx gm) (clA ax) ph0)[45]? = some q → va_at (dC, dI) vwCl q H := fun q hq => by
  cases (toW_at sh_45).symm.trans hq
  have z : H[gx 45]? = some (vp_cell (ax 45) (6, .inr (.inl (fun _ => 0)))) := hP 45 _ rfl
  rw [show ax 45 = ax 9 from ra_long (hK.2 38 _ rfl).2 (hK.2 5 _ rfl).2] at z
  exact z
set_option maxRecDepth 100000 in
theorem pb_46 {dC : Nat → ClassId} {dI : Nat → Nat → Nat} {s : State} {gx gm : Nat → Nat} {ax am : Nat → ClassId} {H : Heap} (hK : va_K (dC, dI) vwCl (tX ax ++ tM am) s) (hP : va_P (dC, dI) vwCl (wX gx ax ++ wM gm am) H) : ∀ q, (toW (rho gx gm) (clA ax) ph0)[46]? = some q → va_at (dC, dI) vwCl q H := fun q hq => by
  cases (toW_at sh_46).symm.trans hq
  have z : H[gx 46]? = some (vp_cell (ax 46) (5, .inl (fun _ => 0))) := hP 46 _ rfl
  rw [show ax 46 = ax 5 from ra_int (hK.2 39 _ rfl).2 (hK.2 1 _ rfl).2] at z
  exact z
set_option maxRecDepth 100000 in
theorem pb_47 {dC : Nat → ClassId} {dI : Nat → Nat → Nat} {s : State} {gx gm : Nat → Nat} {ax am : Nat → ClassId} {H : Heap} (hK : va_K (dC, dI) vwCl (tX ax ++ tM am) s) (hP : va_P (dC, dI) vwCl (wX gx ax ++ wM gm am) H) : ∀ q, (toW (rho gx gm) (clA ax) ph0)[47]? = some q → va_at (dC, dI) vwCl q H := fun q hq => by
  cases (toW_at sh_47).symm.trans hq
  have z : H[gx 47]? = some (vp_cell (ax 47) (5, .inl (fun _ => 0))) := hP 47 _ rfl
  rw [show ax 47 = ax 5 from ra_int (hK.2 40 _ rfl).2 (hK.2 1 _ rfl).2] at z
  exact z
set_option maxRecDepth 100000 in
theorem pb_48 {dC : Nat → ClassId} {dI : Nat → Nat → Nat} {s : State} {gx gm : Nat → Nat} {ax am : Nat → ClassId} {H : Heap} (hK : va_K (dC, dI) vwCl (tX ax ++ tM am) s) (hP : va_P (dC, dI) vwCl (wX gx ax ++ wM gm am) H) : ∀ q, (toW (rho gx gm) (clA ax) ph0)[48]? = some q → va_at (dC, dI) vwCl q H := fun q hq => by
  cases (toW_at sh_48).symm.trans hq
  have z : H[gx 48]? = some (vp_cell (ax 48) (5, .inl (fun _ => 0))) := hP 48 _ rfl
  rw [show ax 48 = ax 5 from ra_int (hK.2 41 _ rfl).2 (hK.2 1 _ rfl).2] at z
  exact z
set_option maxRecDepth 100000 in
theorem pb_49 {dC : Nat → ClassId} {dI : Nat → Nat → Nat} {s : State} {gx gm : Nat → Nat} {ax am : Nat → ClassId} {H : Heap} (hK : va_K (dC, dI) vwCl (tX ax ++ tM am) s) (hP : va_P (dC, dI) vwCl (wX gx ax ++ wM gm am) H) : ∀ q, (toW (rho gx gm) (clA ax) ph0)[49]? = some q → va_at (dC, dI) vwCl q H := fun q hq => by
  cases (toW_at sh_49).symm.trans hq
  have z : H[gx 49]? = some (vp_cell (ax 49) (30, .inl (fun _ => 0))) := hP 49 _ rfl
  rw [show ax 49 = ax 5 from ra_int (hK.2 42 _ rfl).2 (hK.2 1 _ rfl).2] at z
  exact z
set_option maxRecDepth 100000 in
theorem pb_50 {dC : Nat → ClassId} {dI : Nat → Nat → Nat} {s : State} {gx gm : Nat → Nat} {ax am : Nat → ClassId} {H : Heap} (hK : va_K (dC, dI) vwCl (tX ax ++ tM am) s) (hP : va_P (dC, dI) vwCl (wX gx ax ++ wM gm am) H) : ∀ q, (toW (rho gx gm) (clA ax) ph0)[50]? = some q → va_at (dC, dI) vwCl q H := fun q hq => by
  cases (toW_at sh_50).symm.trans hq
  have z : H[gx 50]? = some (vp_cell (ax 50) (30, .inl (fun _ => 0))) := hP 50 _ rfl
  rw [show ax 50 = ax 5 from ra_int (hK.2 43 _ rfl).2 (hK.2 1 _ rfl).2] at z
  exact z
set_option maxRecDepth 100000 in
theorem pb_51 {dC : Nat → ClassId} {dI : Nat → Nat → Nat} {s : State} {gx gm : Nat → Nat} {ax am : Nat → ClassId} {H : Heap} (hK : va_K (dC, dI) vwCl (tX ax ++ tM am) s) (hP : va_P (dC, dI) vwCl (wX gx ax ++ wM gm am) H) : ∀ q, (toW (rho gx gm) (clA ax) ph0)[51]? = some q → va_at (dC, dI) vwCl q H := fun q hq => by
  cases (toW_at sh_51).symm.trans hq
  have z : H[gx 51]? = some (vp_cell (ax 51) (30, .inl (fun _ => 0))) := hP 51 _ rfl
  rw [show ax 51 = ax 5 from ra_int (hK.2 44 _ rfl).2 (hK.2 1 _ rfl).2] at z
  exact z
set_option maxRecDepth 100000 in
theorem pb_52 {dC : Nat → ClassId} {dI : Nat → Nat → Nat} {s : State} {gx gm : Nat → Nat} {ax am : Nat → ClassId} {H : Heap} (hK : va_K (dC, dI) vwCl (tX ax ++ tM am) s) (hP : va_P (dC, dI) vwCl (wX gx ax ++ wM gm am) H) : ∀ q, (toW (rho gx gm) (clA ax) ph0)[52]? = some q → va_at (dC, dI) vwCl q H := fun q hq => by
  cases (toW_at sh_52).symm.trans hq
  exact hP 52 _ rfl
set_option maxRecDepth 100000 in
theorem pb_53 {dC : Nat → ClassId} {dI : Nat → Nat → Nat} {s : State} {gx gm : Nat → Nat} {ax am : Nat → ClassId} {H : Heap} (hK : va_K (dC, dI) vwCl (tX ax ++ tM am) s) (hP : va_P (dC, dI) vwCl (wX gx ax ++ wM gm am) H) : ∀ q, (toW (rho gx gm) (clA ax) ph0)[53]? = some q → va_at (dC, dI) vwCl q H := fun q hq => by
  cases (toW_at sh_53).symm.trans hq
  have z : H[gx 53]? = some (vp_cell (ax 53) (11, .inl (fun _ => 0))) := hP 53 _ rfl
  rw [show ax 53 = ax 5 from ra_int (hK.2 45 _ rfl).2 (hK.2 1 _ rfl).2] at z
  exact z
set_option maxRecDepth 100000 in
theorem pb_54 {dC : Nat → ClassId} {dI : Nat → Nat → Nat} {s : State} {gx gm : Nat → Nat} {ax am : Nat → ClassId} {H : Heap} (hK : va_K (dC, dI) vwCl (tX ax ++ tM am) s) (hP : va_P (dC, dI) vwCl (wX gx ax ++ wM gm am) H) : ∀ q, (toW (rho gx gm) (clA ax) ph0)[54]? = some q → va_at (dC, dI) vwCl q H := fun q hq => by
  cases (toW_at sh_54).symm.trans hq
  have z : H[gx 54]? = some (vp_cell (ax 54) (6, .inl (fun _ => 0))) := hP 54 _ rfl
  rw [show ax 54 = ax 5 from ra_int (hK.2 46 _ rfl).2 (hK.2 1 _ rfl).2] at z
  exact z
set_option maxRecDepth 100000 in
theorem pb_55 {dC : Nat → ClassId} {dI : Nat → Nat → Nat} {s : State} {gx gm : Nat → Nat} {ax am : Nat → ClassId} {H : Heap} (hK : va_K (dC, dI) vwCl (tX ax ++ tM am) s) (hP : va_P (dC, dI) vwCl (wX gx ax ++ wM gm am) H) : ∀ q, (toW (rho gx gm) (clA ax) ph0)[55]? = some q → va_at (dC, dI) vwCl q H := fun q hq => by
  cases (toW_at sh_55).symm.trans hq
  have z : H[gx 55]? = some (vp_cell (ax 55) (6, .inl (fun _ => 0))) := hP 55 _ rfl
  rw [show ax 55 = ax 5 from ra_int (hK.2 47 _ rfl).2 (hK.2 1 _ rfl).2] at z
  exact z
set_option maxRecDepth 100000 in
theorem pb_56 {dC : Nat → ClassId} {dI : Nat → Nat → Nat} {s : State} {gx gm : Nat → Nat} {ax am : Nat → ClassId} {H : Heap} (hK : va_K (dC, dI) vwCl (tX ax ++ tM am) s) (hP : va_P (dC, dI) vwCl (wX gx ax ++ wM gm am) H) : ∀ q, (toW (rho gx gm) (clA ax) ph0)[56]? = some q → va_at (dC, dI) vwCl q H := fun q hq => by
  cases (toW_at sh_56).symm.trans hq
  have z : H[gx 56]? = some (vp_cell (ax 56) (6, .inl (fun _ => 0))) := hP 56 _ rfl
  rw [show ax 56 = ax 5 from ra_int (hK.2 48 _ rfl).2 (hK.2 1 _ rfl).2] at z
  exact z
set_option maxRecDepth 100000 in
theorem pb_57 {dC : Nat → ClassId} {dI : Nat → Nat → Nat} {s : State} {gx gm : Nat → Nat} {ax am : Nat → ClassId} {H : Heap} (hK : va_K (dC, dI) vwCl (tX ax ++ tM am) s) (hP : va_P (dC, dI) vwCl (wX gx ax ++ wM gm am) H) : ∀ q, (toW (rho gx gm) (clA ax) ph0)[57]? = some q → va_at (dC, dI) vwCl q H := fun q hq => by
  cases (toW_at sh_57).symm.trans hq
  have z : H[gx 57]? = some (vp_cell (ax 57) (6, .inr (.inl (fun _ => 0)))) := hP 57 _ rfl
  rw [show ax 57 = ax 9 from ra_long (hK.2 49 _ rfl).2 (hK.2 5 _ rfl).2] at z
  exact z
set_option maxRecDepth 100000 in
theorem pb_58 {dC : Nat → ClassId} {dI : Nat → Nat → Nat} {s : State} {gx gm : Nat → Nat} {ax am : Nat → ClassId} {H : Heap} (hK : va_K (dC, dI) vwCl (tX ax ++ tM am) s) (hP : va_P (dC, dI) vwCl (wX gx ax ++ wM gm am) H) : ∀ q, (toW (rho gx gm) (clA ax) ph0)[58]? = some q → va_at (dC, dI) vwCl q H := fun q hq => by
  cases (toW_at sh_58).symm.trans hq
  have z : H[gx 58]? = some (vp_cell (ax 58) (5, .inl (fun _ => 0))) := hP 58 _ rfl
  rw [show ax 58 = ax 5 from ra_int (hK.2 50 _ rfl).2 (hK.2 1 _ rfl).2] at z
  exact z
set_option maxRecDepth 100000 in
theorem pb_59 {dC : Nat → ClassId} {dI : Nat → Nat → Nat} {s : State} {gx gm : Nat → Nat} {ax am : Nat → ClassId} {H : Heap} (hK : va_K (dC, dI) vwCl (tX ax ++ tM am) s) (hP : va_P (dC, dI) vwCl (wX gx ax ++ wM gm am) H) : ∀ q, (toW (rho gx gm) (clA ax) ph0)[59]? = some q → va_at (dC, dI) vwCl q H := fun q hq => by
  cases (toW_at sh_59).symm.trans hq
  have z : H[gx 59]? = some (vp_cell (ax 59) (5, .inl (fun _ => 0))) := hP 59 _ rfl
  rw [show ax 59 = ax 5 from ra_int (hK.2 51 _ rfl).2 (hK.2 1 _ rfl).2] at z
  exact z

set_option maxRecDepth 100000 in
theorem pb_60 {dC : Nat → ClassId} {dI : Nat → Nat → Nat} {s : State} {gx gm : Nat → Nat} {ax am : Nat → ClassId} {H : Heap} (hK : va_K (dC, dI) vwCl (tX ax ++ tM am) s) (hP : va_P (dC, dI) vwCl (wX gx ax ++ wM gm am) H) : ∀ q, (toW (rho gx gm) (clA ax) ph0)[60]? = some q → va_at (dC, dI) vwCl q H := fun q hq => by
  cases (toW_at sh_60).symm.trans hq
  have z : H[gx 60]? = some (vp_cell (ax 60) (5, .inl (fun _ => 0))) := hP 60 _ rfl
  rw [show ax 60 = ax 5 from ra_int (hK.2 52 _ rfl).2 (hK.2 1 _ rfl).2] at z
  exact z
set_option maxRecDepth 100000 in
theorem pb_61 {dC : Nat → ClassId} {dI : Nat → Nat → Nat} {s : State} {gx gm : Nat → Nat} {ax am : Nat → ClassId} {H : Heap} (hK : va_K (dC, dI) vwCl (tX ax ++ tM am) s) (hP : va_P (dC, dI) vwCl (wX gx ax ++ wM gm am) H) : ∀ q, (toW (rho gx gm) (clA ax) ph0)[61]? = some q → va_at (dC, dI) vwCl q H := fun q hq => by
  cases (toW_at sh_61).symm.trans hq
  have z : H[gx 61]? = some (vp_cell (ax 61) (30, .inl (fun _ => 0))) := hP 61 _ rfl
  rw [show ax 61 = ax 5 from ra_int (hK.2 53 _ rfl).2 (hK.2 1 _ rfl).2] at z
  exact z
set_option maxRecDepth 100000 in
theorem pb_62 {dC : Nat → ClassId} {dI : Nat → Nat → Nat} {s : State} {gx gm : Nat → Nat} {ax am : Nat → ClassId} {H : Heap} (hK : va_K (dC, dI) vwCl (tX ax ++ tM am) s) (hP : va_P (dC, dI) vwCl (wX gx ax ++ wM gm am) H) : ∀ q, (toW (rho gx gm) (clA ax) ph0)[62]? = some q → va_at (dC, dI) vwCl q H := fun q hq => by
  cases (toW_at sh_62).symm.trans hq
  have z : H[gx 62]? = some (vp_cell (ax 62) (30, .inl (fun _ => 0))) := hP 62 _ rfl
  rw [show ax 62 = ax 5 from ra_int (hK.2 54 _ rfl).2 (hK.2 1 _ rfl).2] at z
  exact z
set_option maxRecDepth 100000 in
theorem pb_63 {dC : Nat → ClassId} {dI : Nat → Nat → Nat} {s : State} {gx gm : Nat → Nat} {ax am : Nat → ClassId} {H : Heap} (hK : va_K (dC, dI) vwCl (tX ax ++ tM am) s) (hP : va_P (dC, dI) vwCl (wX gx ax ++ wM gm am) H) : ∀ q, (toW (rho gx gm) (clA ax) ph0)[63]? = some q → va_at (dC, dI) vwCl q H := fun q hq => by
  cases (toW_at sh_63).symm.trans hq
  have z : H[gx 63]? = some (vp_cell (ax 63) (30, .inl (fun _ => 0))) := hP 63 _ rfl
  rw [show ax 63 = ax 5 from ra_int (hK.2 55 _ rfl).2 (hK.2 1 _ rfl).2] at z
  exact z
set_option maxRecDepth 100000 in
theorem pb_64 {dC : Nat → ClassId} {dI : Nat → Nat → Nat} {s : State} {gx gm : Nat → Nat} {ax am : Nat → ClassId} {H : Heap} (hK : va_K (dC, dI) vwCl (tX ax ++ tM am) s) (hP : va_P (dC, dI) vwCl (wX gx ax ++ wM gm am) H) : ∀ q, (toW (rho gx gm) (clA ax) ph0)[64]? = some q → va_at (dC, dI) vwCl q H := fun q hq => by
  cases (toW_at sh_64).symm.trans hq
  have z : H[gx 64]? = some (vp_cell (ax 64) (3, .inr (.inr (.inr (.inr (iF gx)))))) := hP 64 _ rfl
  rw [arr3 (g := fun j => some (rho gx gm (([28, 40, 52] : List Nat).getD j 0))) rfl rfl rfl] at z
  exact z
set_option maxRecDepth 100000 in
theorem pb_65 {dC : Nat → ClassId} {dI : Nat → Nat → Nat} {s : State} {gx gm : Nat → Nat} {ax am : Nat → ClassId} {H : Heap} (hK : va_K (dC, dI) vwCl (tX ax ++ tM am) s) (hP : va_P (dC, dI) vwCl (wX gx ax ++ wM gm am) H) : ∀ q, (toW (rho gx gm) (clA ax) ph0)[65]? = some q → va_at (dC, dI) vwCl q H := fun q hq => by
  cases (toW_at sh_65).symm.trans hq
  have z : H[gx 65]? = some (vp_cell (ax 65) (3, .inl (fun _ => 0))) := hP 65 _ rfl
  exact z
set_option maxRecDepth 100000 in
theorem pb_66 {dC : Nat → ClassId} {dI : Nat → Nat → Nat} {s : State} {gx gm : Nat → Nat} {ax am : Nat → ClassId} {H : Heap} (hK : va_K (dC, dI) vwCl (tX ax ++ tM am) s) (hP : va_P (dC, dI) vwCl (wX gx ax ++ wM gm am) H) : ∀ q, (toW (rho gx gm) (clA ax) ph0)[66]? = some q → va_at (dC, dI) vwCl q H := fun q hq => by
  cases (toW_at sh_66).symm.trans hq
  exact hP 66 _ rfl
set_option maxRecDepth 100000 in
theorem pb_67 {dC : Nat → ClassId} {dI : Nat → Nat → Nat} {s : State} {gx gm : Nat → Nat} {ax am : Nat → ClassId} {H : Heap} (hK : va_K (dC, dI) vwCl (tX ax ++ tM am) s) (hP : va_P (dC, dI) vwCl (wX gx ax ++ wM gm am) H) : ∀ q, (toW (rho gx gm) (clA ax) ph0)[67]? = some q → va_at (dC, dI) vwCl q H := fun q hq => by
  cases (toW_at sh_67).symm.trans hq
  have z : H[gx 67]? = some (vp_cell (ax 67) (240, .inr (.inl (fun _ => 0)))) := hP 67 _ rfl
  rw [show ax 67 = ax 9 from ra_long (hK.2 58 _ rfl).2 (hK.2 5 _ rfl).2] at z
  exact z
set_option maxRecDepth 100000 in
theorem pb_68 {dC : Nat → ClassId} {dI : Nat → Nat → Nat} {s : State} {gx gm : Nat → Nat} {ax am : Nat → ClassId} {H : Heap} (hK : va_K (dC, dI) vwCl (tX ax ++ tM am) s) (hP : va_P (dC, dI) vwCl (wX gx ax ++ wM gm am) H) : ∀ q, (toW (rho gx gm) (clA ax) ph0)[68]? = some q → va_at (dC, dI) vwCl q H := fun q hq => by
  cases (toW_at sh_68).symm.trans hq
  have z : H[gx 68]? = some (vp_cell (ax 68) (4, .inl nF)) := hP 68 _ rfl
  rw [show ax 68 = ax 5 from ra_int (hK.2 59 _ rfl).2 (hK.2 1 _ rfl).2] at z
  exact z
set_option maxRecDepth 100000 in
theorem pb_69 {dC : Nat → ClassId} {dI : Nat → Nat → Nat} {s : State} {gx gm : Nat → Nat} {ax am : Nat → ClassId} {H : Heap} (hK : va_K (dC, dI) vwCl (tX ax ++ tM am) s) (hP : va_P (dC, dI) vwCl (wX gx ax ++ wM gm am) H) : ∀ q, (toW (rho gx gm) (clA ax) ph0)[69]? = some q → va_at (dC, dI) vwCl q H := fun q hq => by
  cases (toW_at sh_69).symm.trans hq
  have z : H[gx 69]? = some (vp_cell (ax 69) (4, .inl (fun _ => 0))) := hP 69 _ rfl
  rw [show ax 69 = ax 5 from ra_int (hK.2 60 _ rfl).2 (hK.2 1 _ rfl).2] at z
  exact z
set_option maxRecDepth 100000 in
theorem pb_70 {dC : Nat → ClassId} {dI : Nat → Nat → Nat} {s : State} {gx gm : Nat → Nat} {ax am : Nat → ClassId} {H : Heap} (hK : va_K (dC, dI) vwCl (tX ax ++ tM am) s) (hP : va_P (dC, dI) vwCl (wX gx ax ++ wM gm am) H) : ∀ q, (toW (rho gx gm) (clA ax) ph0)[70]? = some q → va_at (dC, dI) vwCl q H := fun q hq => by
  cases (toW_at sh_70).symm.trans hq
  exact hP 70 _ rfl
set_option maxRecDepth 100000 in
theorem pb_71 {dC : Nat → ClassId} {dI : Nat → Nat → Nat} {s : State} {gx gm : Nat → Nat} {ax am : Nat → ClassId} {H : Heap} (hK : va_K (dC, dI) vwCl (tX ax ++ tM am) s) (hP : va_P (dC, dI) vwCl (wX gx ax ++ wM gm am) H) : ∀ q, (toW (rho gx gm) (clA ax) ph0)[71]? = some q → va_at (dC, dI) vwCl q H := fun q hq => by
  cases (toW_at sh_71).symm.trans hq
  have z : H[gx 71]? = some (vp_cell (ax 71) (6, .inl (fun _ => 0))) := hP 71 _ rfl
  rw [show ax 71 = ax 5 from ra_int (hK.2 61 _ rfl).2 (hK.2 1 _ rfl).2] at z
  exact z
set_option maxRecDepth 100000 in
theorem pb_72 {dC : Nat → ClassId} {dI : Nat → Nat → Nat} {s : State} {gx gm : Nat → Nat} {ax am : Nat → ClassId} {H : Heap} (hK : va_K (dC, dI) vwCl (tX ax ++ tM am) s) (hP : va_P (dC, dI) vwCl (wX gx ax ++ wM gm am) H) : ∀ q, (toW (rho gx gm) (clA ax) ph0)[72]? = some q → va_at (dC, dI) vwCl q H := fun q hq => by
  cases (toW_at sh_72).symm.trans hq
  have z : H[gx 72]? = some (vp_cell (ax 72) (6, .inl (fun _ => 0))) := hP 72 _ rfl
  rw [show ax 72 = ax 5 from ra_int (hK.2 62 _ rfl).2 (hK.2 1 _ rfl).2] at z
  exact z
set_option maxRecDepth 100000 in
theorem pb_73 {dC : Nat → ClassId} {dI : Nat → Nat → Nat} {s : State} {gx gm : Nat → Nat} {ax am : Nat → ClassId} {H : Heap} (hK : va_K (dC, dI) vwCl (tX ax ++ tM am) s) (hP : va_P (dC, dI) vwCl (wX gx ax ++ wM gm am) H) : ∀ q, (toW (rho gx gm) (clA ax) ph0)[73]? = some q → va_at (dC, dI) vwCl q H := fun q hq => by
  cases (toW_at sh_73).symm.trans hq
  have z : H[gx 73]? = some (vp_cell (ax 73) (6, .inr (.inl (fun _ => 0)))) := hP 73 _ rfl
  rw [show ax 73 = ax 9 from ra_long (hK.2 63 _ rfl).2 (hK.2 5 _ rfl).2] at z
  exact z
set_option maxRecDepth 100000 in
theorem pb_74 {dC : Nat → ClassId} {dI : Nat → Nat → Nat} {s : State} {gx gm : Nat → Nat} {ax am : Nat → ClassId} {H : Heap} (hK : va_K (dC, dI) vwCl (tX ax ++ tM am) s) (hP : va_P (dC, dI) vwCl (wX gx ax ++ wM gm am) H) : ∀ q, (toW (rho gx gm) (clA ax) ph0)[74]? = some q → va_at (dC, dI) vwCl q H := fun q hq => by
  cases (toW_at sh_74).symm.trans hq
  have z : H[gx 74]? = some (vp_cell (ax 74) (6, .inl (fun _ => 0))) := hP 74 _ rfl
  rw [show ax 74 = ax 5 from ra_int (hK.2 64 _ rfl).2 (hK.2 1 _ rfl).2] at z
  exact z
set_option maxRecDepth 100000 in
theorem pb_75 {dC : Nat → ClassId} {dI : Nat → Nat → Nat} {s : State} {gx gm : Nat → Nat} {ax am : Nat → ClassId} {H : Heap} (hK : va_K (dC, dI) vwCl (tX ax ++ tM am) s) (hP : va_P (dC, dI) vwCl (wX gx ax ++ wM gm am) H) : ∀ q, (toW (rho gx gm) (clA ax) ph0)[75]? = some q → va_at (dC, dI) vwCl q H := fun q hq => by
  cases (toW_at sh_75).symm.trans hq
  exact hP 75 _ rfl
set_option maxRecDepth 100000 in
theorem pb_76 {dC : Nat → ClassId} {dI : Nat → Nat → Nat} {s : State} {gx gm : Nat → Nat} {ax am : Nat → ClassId} {H : Heap} (hK : va_K (dC, dI) vwCl (tX ax ++ tM am) s) (hP : va_P (dC, dI) vwCl (wX gx ax ++ wM gm am) H) : ∀ q, (toW (rho gx gm) (clA ax) ph0)[76]? = some q → va_at (dC, dI) vwCl q H := fun q hq => by
  cases (toW_at sh_76).symm.trans hq
  have z : H[gx 76]? = some (vp_cell (ax 76) (360, .inl (fun _ => 0))) := hP 76 _ rfl
  rw [show ax 76 = ax 5 from ra_int (hK.2 65 _ rfl).2 (hK.2 1 _ rfl).2] at z
  exact z
set_option maxRecDepth 100000 in
theorem pb_77 {dC : Nat → ClassId} {dI : Nat → Nat → Nat} {s : State} {gx gm : Nat → Nat} {ax am : Nat → ClassId} {H : Heap} (hK : va_K (dC, dI) vwCl (tX ax ++ tM am) s) (hP : va_P (dC, dI) vwCl (wX gx ax ++ wM gm am) H) : ∀ q, (toW (rho gx gm) (clA ax) ph0)[77]? = some q → va_at (dC, dI) vwCl q H := fun q hq => by
  cases (toW_at sh_77).symm.trans hq
  have z : H[gx 77]? = some (vp_cell (ax 77) (60, .inl (fun _ => 0))) := hP 77 _ rfl
  rw [show ax 77 = ax 5 from ra_int (hK.2 66 _ rfl).2 (hK.2 1 _ rfl).2] at z
  exact z
set_option maxRecDepth 100000 in
theorem pb_78 {dC : Nat → ClassId} {dI : Nat → Nat → Nat} {s : State} {gx gm : Nat → Nat} {ax am : Nat → ClassId} {H : Heap} (hK : va_K (dC, dI) vwCl (tX ax ++ tM am) s) (hP : va_P (dC, dI) vwCl (wX gx ax ++ wM gm am) H) : ∀ q, (toW (rho gx gm) (clA ax) ph0)[78]? = some q → va_at (dC, dI) vwCl q H := fun q hq => by
  cases (toW_at sh_78).symm.trans hq
  have z : H[gx 78]? = some (vp_cell (ax 78) (60, .inl (fun _ => 0))) := hP 78 _ rfl
  rw [show ax 78 = ax 5 from ra_int (hK.2 67 _ rfl).2 (hK.2 1 _ rfl).2] at z
  exact z
set_option maxRecDepth 100000 in
theorem pb_79 {dC : Nat → ClassId} {dI : Nat → Nat → Nat} {s : State} {gx gm : Nat → Nat} {ax am : Nat → ClassId} {H : Heap} (hK : va_K (dC, dI) vwCl (tX ax ++ tM am) s) (hP : va_P (dC, dI) vwCl (wX gx ax ++ wM gm am) H) : ∀ q, (toW (rho gx gm) (clA ax) ph0)[79]? = some q → va_at (dC, dI) vwCl q H := fun q hq => by
  cases (toW_at sh_79).symm.trans hq
  have z : H[gx 79]? = some (vp_cell (ax 79) (60, .inl (fun _ => 0))) := hP 79 _ rfl
  rw [show ax 79 = ax 5 from ra_int (hK.2 68 _ rfl).2 (hK.2 1 _ rfl).2] at z
  exact z
set_option maxRecDepth 100000 in
theorem pb_80 {dC : Nat → ClassId} {dI : Nat → Nat → Nat} {s : State} {gx gm : Nat → Nat} {ax am : Nat → ClassId} {H : Heap} (hK : va_K (dC, dI) vwCl (tX ax ++ tM am) s) (hP : va_P (dC, dI) vwCl (wX gx ax ++ wM gm am) H) : ∀ q, (toW (rho gx gm) (clA ax) ph0)[80]? = some q → va_at (dC, dI) vwCl q H := fun q hq => by
  cases (toW_at sh_80).symm.trans hq
  have z : H[gx 80]? = some (vp_cell (ax 80) (60, .inl (fun _ => 0))) := hP 80 _ rfl
  rw [show ax 80 = ax 5 from ra_int (hK.2 69 _ rfl).2 (hK.2 1 _ rfl).2] at z
  exact z
set_option maxRecDepth 100000 in
theorem pb_81 {dC : Nat → ClassId} {dI : Nat → Nat → Nat} {s : State} {gx gm : Nat → Nat} {ax am : Nat → ClassId} {H : Heap} (hK : va_K (dC, dI) vwCl (tX ax ++ tM am) s) (hP : va_P (dC, dI) vwCl (wX gx ax ++ wM gm am) H) : ∀ q, (toW (rho gx gm) (clA ax) ph0)[81]? = some q → va_at (dC, dI) vwCl q H := fun q hq => by
  cases (toW_at sh_81).symm.trans hq
  have z : H[gx 81]? = some (vp_cell (ax 81) (60, .inl (fun _ => 0))) := hP 81 _ rfl
  rw [show ax 81 = ax 5 from ra_int (hK.2 70 _ rfl).2 (hK.2 1 _ rfl).2] at z
  exact z
set_option maxRecDepth 100000 in
theorem pb_82 {dC : Nat → ClassId} {dI : Nat → Nat → Nat} {s : State} {gx gm : Nat → Nat} {ax am : Nat → ClassId} {H : Heap} (hK : va_K (dC, dI) vwCl (tX ax ++ tM am) s) (hP : va_P (dC, dI) vwCl (wX gx ax ++ wM gm am) H) : ∀ q, (toW (rho gx gm) (clA ax) ph0)[82]? = some q → va_at (dC, dI) vwCl q H := fun q hq => by
  cases (toW_at sh_82).symm.trans hq
  have z : H[gx 82]? = some (vp_cell (ax 82) (60, .inl (fun _ => 0))) := hP 82 _ rfl
  rw [show ax 82 = ax 5 from ra_int (hK.2 71 _ rfl).2 (hK.2 1 _ rfl).2] at z
  exact z
set_option maxRecDepth 100000 in
theorem pb_83 {dC : Nat → ClassId} {dI : Nat → Nat → Nat} {s : State} {gx gm : Nat → Nat} {ax am : Nat → ClassId} {H : Heap} (hK : va_K (dC, dI) vwCl (tX ax ++ tM am) s) (hP : va_P (dC, dI) vwCl (wX gx ax ++ wM gm am) H) : ∀ q, (toW (rho gx gm) (clA ax) ph0)[83]? = some q → va_at (dC, dI) vwCl q H := fun q hq => by
  cases (toW_at sh_83).symm.trans hq
  have z : H[gx 83]? = some (vp_cell (ax 83) (60, .inl (fun _ => 0))) := hP 83 _ rfl
  rw [show ax 83 = ax 5 from ra_int (hK.2 72 _ rfl).2 (hK.2 1 _ rfl).2] at z
  exact z
set_option maxRecDepth 100000 in
theorem pb_84 {dC : Nat → ClassId} {dI : Nat → Nat → Nat} {s : State} {gx gm : Nat → Nat} {ax am : Nat → ClassId} {H : Heap} (hK : va_K (dC, dI) vwCl (tX ax ++ tM am) s) (hP : va_P (dC, dI) vwCl (wX gx ax ++ wM gm am) H) : ∀ q, (toW (rho gx gm) (clA ax) ph0)[84]? = some q → va_at (dC, dI) vwCl q H := fun q hq => by
  cases (toW_at sh_84).symm.trans hq
  have z : H[gx 84]? = some (vp_cell (ax 84) (60, .inl (fun _ => 0))) := hP 84 _ rfl
  rw [show ax 84 = ax 5 from ra_int (hK.2 73 _ rfl).2 (hK.2 1 _ rfl).2] at z
  exact z
set_option maxRecDepth 100000 in
theorem pb_85 {dC : Nat → ClassId} {dI : Nat → Nat → Nat} {s : State} {gx gm : Nat → Nat} {ax am : Nat → ClassId} {H : Heap} (hK : va_K (dC, dI) vwCl (tX ax ++ tM am) s) (hP : va_P (dC, dI) vwCl (wX gx ax ++ wM gm am) H) : ∀ q, (toW (rho gx gm) (clA ax) ph0)[85]? = some q → va_at (dC, dI) vwCl q H := fun q hq => by
  cases (toW_at sh_85).symm.trans hq
  have z : H[gx 85]? = some (vp_cell (ax 85) (60, .inl (fun _ => 0))) := hP 85 _ rfl
  rw [show ax 85 = ax 5 from ra_int (hK.2 74 _ rfl).2 (hK.2 1 _ rfl).2] at z
  exact z
set_option maxRecDepth 100000 in
theorem pb_86 {dC : Nat → ClassId} {dI : Nat → Nat → Nat} {s : State} {gx gm : Nat → Nat} {ax am : Nat → ClassId} {H : Heap} (hK : va_K (dC, dI) vwCl (tX ax ++ tM am) s) (hP : va_P (dC, dI) vwCl (wX gx ax ++ wM gm am) H) : ∀ q, (toW (rho gx gm) (clA ax) ph0)[86]? = some q → va_at (dC, dI) vwCl q H := fun q hq => by
  cases (toW_at sh_86).symm.trans hq
  have z : H[gx 86]? = some (vp_cell (ax 86) (7, .inl (fun _ => 0))) := hP 86 _ rfl
  rw [show ax 86 = ax 5 from ra_int (hK.2 75 _ rfl).2 (hK.2 1 _ rfl).2] at z
  exact z
set_option maxRecDepth 100000 in
theorem pb_87 {dC : Nat → ClassId} {dI : Nat → Nat → Nat} {s : State} {gx gm : Nat → Nat} {ax am : Nat → ClassId} {H : Heap} (hK : va_K (dC, dI) vwCl (tX ax ++ tM am) s) (hP : va_P (dC, dI) vwCl (wX gx ax ++ wM gm am) H) : ∀ q, (toW (rho gx gm) (clA ax) ph0)[87]? = some q → va_at (dC, dI) vwCl q H := fun q hq => by
  cases (toW_at sh_87).symm.trans hq
  exact hP 87 _ rfl
set_option maxRecDepth 100000 in
theorem pb_88 {dC : Nat → ClassId} {dI : Nat → Nat → Nat} {s : State} {gx gm : Nat → Nat} {ax am : Nat → ClassId} {H : Heap} (hK : va_K (dC, dI) vwCl (tX ax ++ tM am) s) (hP : va_P (dC, dI) vwCl (wX gx ax ++ wM gm am) H) : ∀ q, (toW (rho gx gm) (clA ax) ph0)[88]? = some q → va_at (dC, dI) vwCl q H := fun q hq => by
  cases (toW_at sh_88).symm.trans hq
  have z : H[gx 88]? = some (vp_cell (ax 88) (6, .inl (fun _ => 0))) := hP 88 _ rfl
  rw [show ax 88 = ax 5 from ra_int (hK.2 76 _ rfl).2 (hK.2 1 _ rfl).2] at z
  exact z
set_option maxRecDepth 100000 in
theorem pb_89 {dC : Nat → ClassId} {dI : Nat → Nat → Nat} {s : State} {gx gm : Nat → Nat} {ax am : Nat → ClassId} {H : Heap} (hK : va_K (dC, dI) vwCl (tX ax ++ tM am) s) (hP : va_P (dC, dI) vwCl (wX gx ax ++ wM gm am) H) : ∀ q, (toW (rho gx gm) (clA ax) ph0)[89]? = some q → va_at (dC, dI) vwCl q H := fun q hq => by
  cases (toW_at sh_89).symm.trans hq
  have z : H[gx 89]? = some (vp_cell (ax 89) (6, .inl (fun _ => 0))) := hP 89 _ rfl
  rw [show ax 89 = ax 5 from ra_int (hK.2 77 _ rfl).2 (hK.2 1 _ rfl).2] at z
  exact z
set_option maxRecDepth 100000 in
theorem pb_90 {dC : Nat → ClassId} {dI : Nat → Nat → Nat} {s : State} {gx gm : Nat → Nat} {ax am : Nat → ClassId} {H : Heap} (hK : va_K (dC, dI) vwCl (tX ax ++ tM am) s) (hP : va_P (dC, dI) vwCl (wX gx ax ++ wM gm am) H) : ∀ q, (toW (rho gx gm) (clA ax) ph0)[90]? = some q → va_at (dC, dI) vwCl q H := fun q hq => by
  cases (toW_at sh_90).symm.trans hq
  have z : H[gx 90]? = some (vp_cell (ax 90) (720, .inl (fun _ => 0))) := hP 90 _ rfl
  rw [show ax 90 = ax 5 from ra_int (hK.2 78 _ rfl).2 (hK.2 1 _ rfl).2] at z
  exact z
set_option maxRecDepth 100000 in
theorem pb_91 {dC : Nat → ClassId} {dI : Nat → Nat → Nat} {s : State} {gx gm : Nat → Nat} {ax am : Nat → ClassId} {H : Heap} (hK : va_K (dC, dI) vwCl (tX ax ++ tM am) s) (hP : va_P (dC, dI) vwCl (wX gx ax ++ wM gm am) H) : ∀ q, (toW (rho gx gm) (clA ax) ph0)[91]? = some q → va_at (dC, dI) vwCl q H := fun q hq => by
  cases (toW_at sh_91).symm.trans hq
  have z : H[gx 91]? = some (vp_cell (ax 91) (720, .inr (.inl (fun _ => 0)))) := hP 91 _ rfl
  rw [show ax 91 = ax 9 from ra_long (hK.2 79 _ rfl).2 (hK.2 5 _ rfl).2] at z
  exact z
set_option maxRecDepth 100000 in
theorem pb_92 {dC : Nat → ClassId} {dI : Nat → Nat → Nat} {s : State} {gx gm : Nat → Nat} {ax am : Nat → ClassId} {H : Heap} (hK : va_K (dC, dI) vwCl (tX ax ++ tM am) s) (hP : va_P (dC, dI) vwCl (wX gx ax ++ wM gm am) H) : ∀ q, (toW (rho gx gm) (clA ax) ph0)[92]? = some q → va_at (dC, dI) vwCl q H := fun q hq => by
  cases (toW_at sh_92).symm.trans hq
  have z : H[gx 92]? = some (vp_cell (ax 92) (720, .inl (fun _ => 0))) := hP 92 _ rfl
  rw [show ax 92 = ax 5 from ra_int (hK.2 80 _ rfl).2 (hK.2 1 _ rfl).2] at z
  exact z
set_option maxRecDepth 100000 in
theorem pb_93 {dC : Nat → ClassId} {dI : Nat → Nat → Nat} {s : State} {gx gm : Nat → Nat} {ax am : Nat → ClassId} {H : Heap} (hK : va_K (dC, dI) vwCl (tX ax ++ tM am) s) (hP : va_P (dC, dI) vwCl (wX gx ax ++ wM gm am) H) : ∀ q, (toW (rho gx gm) (clA ax) ph0)[93]? = some q → va_at (dC, dI) vwCl q H := fun q hq => by
  cases (toW_at sh_93).symm.trans hq
  have z : H[gx 93]? = some (vp_cell (ax 93) (61, .inl (fun _ => 0))) := hP 93 _ rfl
  rw [show ax 93 = ax 5 from ra_int (hK.2 81 _ rfl).2 (hK.2 1 _ rfl).2] at z
  exact z
set_option maxRecDepth 100000 in
theorem pb_94 {dC : Nat → ClassId} {dI : Nat → Nat → Nat} {s : State} {gx gm : Nat → Nat} {ax am : Nat → ClassId} {H : Heap} (hK : va_K (dC, dI) vwCl (tX ax ++ tM am) s) (hP : va_P (dC, dI) vwCl (wX gx ax ++ wM gm am) H) : ∀ q, (toW (rho gx gm) (clA ax) ph0)[94]? = some q → va_at (dC, dI) vwCl q H := fun q hq => by
  cases (toW_at sh_94).symm.trans hq
  exact hP 94 _ rfl
set_option maxRecDepth 100000 in
theorem pb_95 {dC : Nat → ClassId} {dI : Nat → Nat → Nat} {s : State} {gx gm : Nat → Nat} {ax am : Nat → ClassId} {H : Heap} (hK : va_K (dC, dI) vwCl (tX ax ++ tM am) s) (hP : va_P (dC, dI) vwCl (wX gx ax ++ wM gm am) H) : ∀ q, (toW (rho gx gm) (clA ax) ph0)[95]? = some q → va_at (dC, dI) vwCl q H := fun q hq => by
  cases (toW_at sh_95).symm.trans hq
  have z : H[gx 95]? = some (vp_cell (ax 95) (256, .inr (.inl (fun _ => 0)))) := hP 95 _ rfl
  rw [show ax 95 = ax 9 from ra_long (hK.2 82 _ rfl).2 (hK.2 5 _ rfl).2] at z
  exact z
theorem vpm {fs : List PF} {f : Nat → PF → Value} {k : Nat} {x : PF} (h : fs[k]? = some x) : vp_V (fs.mapIdx f) k = f k x := by
  unfold vp_V
  rw [List.getD_eq_getElem?_getD, List.getElem?_mapIdx, h]
  rfl
theorem v96_0 {gx gm : Nat → Nat} : vp_V (fs_96.mapIdx (pfv (rho gx gm) ph0 96)) 0 = vp_V (oM gm 0 0 0 0 0 0 (-1)) 0 := by rw [vpm (x := .inr false) rfl]; rfl
theorem v96_1 {gx gm : Nat → Nat} : vp_V (fs_96.mapIdx (pfv (rho gx gm) ph0 96)) 1 = vp_V (oM gm 0 0 0 0 0 0 (-1)) 1 := by rw [vpm (x := .inl 97) rfl]; rfl
theorem v96_2 {gx gm : Nat → Nat} : vp_V (fs_96.mapIdx (pfv (rho gx gm) ph0 96)) 2 = vp_V (oM gm 0 0 0 0 0 0 (-1)) 2 := by rw [vpm (x := .inl 98) rfl]; rfl
theorem v96_3 {gx gm : Nat → Nat} : vp_V (fs_96.mapIdx (pfv (rho gx gm) ph0 96)) 3 = vp_V (oM gm 0 0 0 0 0 0 (-1)) 3 := by rw [vpm (x := .inl 99) rfl]; rfl
theorem v96_4 {gx gm : Nat → Nat} : vp_V (fs_96.mapIdx (pfv (rho gx gm) ph0 96)) 4 = vp_V (oM gm 0 0 0 0 0 0 (-1)) 4 := by rw [vpm (x := .inl 100) rfl]; rfl
theorem v96_5 {gx gm : Nat → Nat} : vp_V (fs_96.mapIdx (pfv (rho gx gm) ph0 96)) 5 = vp_V (oM gm 0 0 0 0 0 0 (-1)) 5 := by rw [vpm (x := .inr false) rfl]; rfl
theorem v96_6 {gx gm : Nat → Nat} : vp_V (fs_96.mapIdx (pfv (rho gx gm) ph0 96)) 6 = vp_V (oM gm 0 0 0 0 0 0 (-1)) 6 := by rw [vpm (x := .inl 101) rfl]; rfl
theorem v96_7 {gx gm : Nat → Nat} : vp_V (fs_96.mapIdx (pfv (rho gx gm) ph0 96)) 7 = vp_V (oM gm 0 0 0 0 0 0 (-1)) 7 := by rw [vpm (x := .inr false) rfl]; rfl
theorem v96_8 {gx gm : Nat → Nat} : vp_V (fs_96.mapIdx (pfv (rho gx gm) ph0 96)) 8 = vp_V (oM gm 0 0 0 0 0 0 (-1)) 8 := by rw [vpm (x := .inr false) rfl]; rfl
theorem v96_9 {gx gm : Nat → Nat} : vp_V (fs_96.mapIdx (pfv (rho gx gm) ph0 96)) 9 = vp_V (oM gm 0 0 0 0 0 0 (-1)) 9 := by rw [vpm (x := .inr false) rfl]; rfl
theorem v96_10 {gx gm : Nat → Nat} : vp_V (fs_96.mapIdx (pfv (rho gx gm) ph0 96)) 10 = vp_V (oM gm 0 0 0 0 0 0 (-1)) 10 := by rw [vpm (x := .inr false) rfl]; rfl
theorem v96_11 {gx gm : Nat → Nat} : vp_V (fs_96.mapIdx (pfv (rho gx gm) ph0 96)) 11 = vp_V (oM gm 0 0 0 0 0 0 (-1)) 11 := by rw [vpm (x := .inr false) rfl]; rfl
theorem v96_12 {gx gm : Nat → Nat} : vp_V (fs_96.mapIdx (pfv (rho gx gm) ph0 96)) 12 = vp_V (oM gm 0 0 0 0 0 0 (-1)) 12 := by rw [vpm (x := .inr false) rfl]; rfl
theorem v96_13 {gx gm : Nat → Nat} : vp_V (fs_96.mapIdx (pfv (rho gx gm) ph0 96)) 13 = vp_V (oM gm 0 0 0 0 0 0 (-1)) 13 := by rw [vpm (x := .inr false) rfl]; rfl
theorem v96_14 {gx gm : Nat → Nat} : vp_V (fs_96.mapIdx (pfv (rho gx gm) ph0 96)) 14 = vp_V (oM gm 0 0 0 0 0 0 (-1)) 14 := by rw [vpm (x := .inl 102) rfl]; rfl
theorem v96_15 {gx gm : Nat → Nat} : vp_V (fs_96.mapIdx (pfv (rho gx gm) ph0 96)) 15 = vp_V (oM gm 0 0 0 0 0 0 (-1)) 15 := by rw [vpm (x := .inl 103) rfl]; rfl
theorem v96_16 {gx gm : Nat → Nat} : vp_V (fs_96.mapIdx (pfv (rho gx gm) ph0 96)) 16 = vp_V (oM gm 0 0 0 0 0 0 (-1)) 16 := by rw [vpm (x := .inl 104) rfl]; rfl
theorem v96_17 {gx gm : Nat → Nat} : vp_V (fs_96.mapIdx (pfv (rho gx gm) ph0 96)) 17 = vp_V (oM gm 0 0 0 0 0 0 (-1)) 17 := by rw [vpm (x := .inl 105) rfl]; rfl
theorem v96_18 {gx gm : Nat → Nat} : vp_V (fs_96.mapIdx (pfv (rho gx gm) ph0 96)) 18 = vp_V (oM gm 0 0 0 0 0 0 (-1)) 18 := by rw [vpm (x := .inr false) rfl]; rfl
theorem v96_19 {gx gm : Nat → Nat} : vp_V (fs_96.mapIdx (pfv (rho gx gm) ph0 96)) 19 = vp_V (oM gm 0 0 0 0 0 0 (-1)) 19 := by rw [vpm (x := .inr false) rfl]; rfl
theorem v96_20 {gx gm : Nat → Nat} : vp_V (fs_96.mapIdx (pfv (rho gx gm) ph0 96)) 20 = vp_V (oM gm 0 0 0 0 0 0 (-1)) 20 := by rw [vpm (x := .inr false) rfl]; rfl
theorem v96_21 {gx gm : Nat → Nat} : vp_V (fs_96.mapIdx (pfv (rho gx gm) ph0 96)) 21 = vp_V (oM gm 0 0 0 0 0 0 (-1)) 21 := by rw [vpm (x := .inl 106) rfl]; rfl
theorem v96_22 {gx gm : Nat → Nat} : vp_V (fs_96.mapIdx (pfv (rho gx gm) ph0 96)) 22 = vp_V (oM gm 0 0 0 0 0 0 (-1)) 22 := by rw [vpm (x := .inl 107) rfl]; rfl
theorem v96_23 {gx gm : Nat → Nat} : vp_V (fs_96.mapIdx (pfv (rho gx gm) ph0 96)) 23 = vp_V (oM gm 0 0 0 0 0 0 (-1)) 23 := by rw [vpm (x := .inl 108) rfl]; rfl
theorem v96_24 {gx gm : Nat → Nat} : vp_V (fs_96.mapIdx (pfv (rho gx gm) ph0 96)) 24 = vp_V (oM gm 0 0 0 0 0 0 (-1)) 24 := by rw [vpm (x := .inl 109) rfl]; rfl
theorem v96_25 {gx gm : Nat → Nat} : vp_V (fs_96.mapIdx (pfv (rho gx gm) ph0 96)) 25 = vp_V (oM gm 0 0 0 0 0 0 (-1)) 25 := by rw [vpm (x := .inl 110) rfl]; rfl
theorem v96_26 {gx gm : Nat → Nat} : vp_V (fs_96.mapIdx (pfv (rho gx gm) ph0 96)) 26 = vp_V (oM gm 0 0 0 0 0 0 (-1)) 26 := by rw [vpm (x := .inl 111) rfl]; rfl
theorem v96_27 {gx gm : Nat → Nat} : vp_V (fs_96.mapIdx (pfv (rho gx gm) ph0 96)) 27 = vp_V (oM gm 0 0 0 0 0 0 (-1)) 27 := by rw [vpm (x := .inl 112) rfl]; rfl
theorem v96_28 {gx gm : Nat → Nat} : vp_V (fs_96.mapIdx (pfv (rho gx gm) ph0 96)) 28 = vp_V (oM gm 0 0 0 0 0 0 (-1)) 28 := by rw [vpm (x := .inl 113) rfl]; rfl
theorem v96_29 {gx gm : Nat → Nat} : vp_V (fs_96.mapIdx (pfv (rho gx gm) ph0 96)) 29 = vp_V (oM gm 0 0 0 0 0 0 (-1)) 29 := by rw [vpm (x := .inl 114) rfl]; rfl
theorem v96_30 {gx gm : Nat → Nat} : vp_V (fs_96.mapIdx (pfv (rho gx gm) ph0 96)) 30 = vp_V (oM gm 0 0 0 0 0 0 (-1)) 30 := by rw [vpm (x := .inl 115) rfl]; rfl
theorem v96_31 {gx gm : Nat → Nat} : vp_V (fs_96.mapIdx (pfv (rho gx gm) ph0 96)) 31 = vp_V (oM gm 0 0 0 0 0 0 (-1)) 31 := by rw [vpm (x := .inl 116) rfl]; rfl
theorem v96_32 {gx gm : Nat → Nat} : vp_V (fs_96.mapIdx (pfv (rho gx gm) ph0 96)) 32 = vp_V (oM gm 0 0 0 0 0 0 (-1)) 32 := by rw [vpm (x := .inl 117) rfl]; rfl
theorem v96_33 {gx gm : Nat → Nat} : vp_V (fs_96.mapIdx (pfv (rho gx gm) ph0 96)) 33 = vp_V (oM gm 0 0 0 0 0 0 (-1)) 33 := by rw [vpm (x := .inl 118) rfl]; rfl
theorem v96_34 {gx gm : Nat → Nat} : vp_V (fs_96.mapIdx (pfv (rho gx gm) ph0 96)) 34 = vp_V (oM gm 0 0 0 0 0 0 (-1)) 34 := by rw [vpm (x := .inr false) rfl]; rfl
theorem v96_35 {gx gm : Nat → Nat} : vp_V (fs_96.mapIdx (pfv (rho gx gm) ph0 96)) 35 = vp_V (oM gm 0 0 0 0 0 0 (-1)) 35 := by rw [vpm (x := .inr false) rfl]; rfl
theorem v96_36 {gx gm : Nat → Nat} : vp_V (fs_96.mapIdx (pfv (rho gx gm) ph0 96)) 36 = vp_V (oM gm 0 0 0 0 0 0 (-1)) 36 := by rw [vpm (x := .inr false) rfl]; rfl
theorem v96_37 {gx gm : Nat → Nat} : vp_V (fs_96.mapIdx (pfv (rho gx gm) ph0 96)) 37 = vp_V (oM gm 0 0 0 0 0 0 (-1)) 37 := by rw [vpm (x := .inl 119) rfl]; rfl
theorem v96_38 {gx gm : Nat → Nat} : vp_V (fs_96.mapIdx (pfv (rho gx gm) ph0 96)) 38 = vp_V (oM gm 0 0 0 0 0 0 (-1)) 38 := by rw [vpm (x := .inl 120) rfl]; rfl
theorem v96_39 {gx gm : Nat → Nat} : vp_V (fs_96.mapIdx (pfv (rho gx gm) ph0 96)) 39 = vp_V (oM gm 0 0 0 0 0 0 (-1)) 39 := by rw [vpm (x := .inl 121) rfl]; rfl
theorem v96_40 {gx gm : Nat → Nat} : vp_V (fs_96.mapIdx (pfv (rho gx gm) ph0 96)) 40 = vp_V (oM gm 0 0 0 0 0 0 (-1)) 40 := by rw [vpm (x := .inl 122) rfl]; rfl
theorem v96_41 {gx gm : Nat → Nat} : vp_V (fs_96.mapIdx (pfv (rho gx gm) ph0 96)) 41 = vp_V (oM gm 0 0 0 0 0 0 (-1)) 41 := by rw [vpm (x := .inr false) rfl]; rfl
theorem v96_42 {gx gm : Nat → Nat} : vp_V (fs_96.mapIdx (pfv (rho gx gm) ph0 96)) 42 = vp_V (oM gm 0 0 0 0 0 0 (-1)) 42 := by rw [vpm (x := .inr false) rfl]; rfl
theorem v96_43 {gx gm : Nat → Nat} : vp_V (fs_96.mapIdx (pfv (rho gx gm) ph0 96)) 43 = vp_V (oM gm 0 0 0 0 0 0 (-1)) 43 := by rw [vpm (x := .inr false) rfl]; rfl
theorem v96_44 {gx gm : Nat → Nat} : vp_V (fs_96.mapIdx (pfv (rho gx gm) ph0 96)) 44 = vp_V (oM gm 0 0 0 0 0 0 (-1)) 44 := by rw [vpm (x := .inr false) rfl]; rfl
theorem v96_45 {gx gm : Nat → Nat} : vp_V (fs_96.mapIdx (pfv (rho gx gm) ph0 96)) 45 = vp_V (oM gm 0 0 0 0 0 0 (-1)) 45 := by rw [vpm (x := .inl 123) rfl]; rfl
theorem v96_46 {gx gm : Nat → Nat} : vp_V (fs_96.mapIdx (pfv (rho gx gm) ph0 96)) 46 = vp_V (oM gm 0 0 0 0 0 0 (-1)) 46 := by rw [vpm (x := .inr false) rfl]; rfl
theorem v96_47 {gx gm : Nat → Nat} : vp_V (fs_96.mapIdx (pfv (rho gx gm) ph0 96)) 47 = vp_V (oM gm 0 0 0 0 0 0 (-1)) 47 := by rw [vpm (x := .inr false) rfl]; rfl
theorem v96_48 {gx gm : Nat → Nat} : vp_V (fs_96.mapIdx (pfv (rho gx gm) ph0 96)) 48 = vp_V (oM gm 0 0 0 0 0 0 (-1)) 48 := by rw [vpm (x := .inr false) rfl]; rfl
theorem v96_49 {gx gm : Nat → Nat} : vp_V (fs_96.mapIdx (pfv (rho gx gm) ph0 96)) 49 = vp_V (oM gm 0 0 0 0 0 0 (-1)) 49 := by rw [vpm (x := .inl 124) rfl]; rfl
theorem v96_50 {gx gm : Nat → Nat} : vp_V (fs_96.mapIdx (pfv (rho gx gm) ph0 96)) 50 = vp_V (oM gm 0 0 0 0 0 0 (-1)) 50 := by rw [vpm (x := .inl 125) rfl]; rfl
theorem v96_51 {gx gm : Nat → Nat} : vp_V (fs_96.mapIdx (pfv (rho gx gm) ph0 96)) 51 = vp_V (oM gm 0 0 0 0 0 0 (-1)) 51 := by rw [vpm (x := .inr false) rfl]; rfl
theorem v96_52 {gx gm : Nat → Nat} : vp_V (fs_96.mapIdx (pfv (rho gx gm) ph0 96)) 52 = vp_V (oM gm 0 0 0 0 0 0 (-1)) 52 := by rw [vpm (x := .inr false) rfl]; rfl
theorem v96_53 {gx gm : Nat → Nat} : vp_V (fs_96.mapIdx (pfv (rho gx gm) ph0 96)) 53 = vp_V (oM gm 0 0 0 0 0 0 (-1)) 53 := by rw [vpm (x := .inl 126) rfl]; rfl
theorem v96_54 {gx gm : Nat → Nat} : vp_V (fs_96.mapIdx (pfv (rho gx gm) ph0 96)) 54 = vp_V (oM gm 0 0 0 0 0 0 (-1)) 54 := by rw [vpm (x := .inr true) rfl]; rfl
theorem v96_55 {gx gm : Nat → Nat} : vp_V (fs_96.mapIdx (pfv (rho gx gm) ph0 96)) 55 = vp_V (oM gm 0 0 0 0 0 0 (-1)) 55 := by rw [vpm (x := .inr true) rfl]; rfl
theorem v96_56 {gx gm : Nat → Nat} : vp_V (fs_96.mapIdx (pfv (rho gx gm) ph0 96)) 56 = vp_V (oM gm 0 0 0 0 0 0 (-1)) 56 := by rw [vpm (x := .inr true) rfl]; rfl
theorem v96_57 {gx gm : Nat → Nat} : vp_V (fs_96.mapIdx (pfv (rho gx gm) ph0 96)) 57 = vp_V (oM gm 0 0 0 0 0 0 (-1)) 57 := by rw [vpm (x := .inl 127) rfl]; rfl
theorem v96_58 {gx gm : Nat → Nat} : vp_V (fs_96.mapIdx (pfv (rho gx gm) ph0 96)) 58 = vp_V (oM gm 0 0 0 0 0 0 (-1)) 58 := by rw [vpm (x := .inl 128) rfl]; rfl
theorem v96_59 {gx gm : Nat → Nat} : vp_V (fs_96.mapIdx (pfv (rho gx gm) ph0 96)) 59 = vp_V (oM gm 0 0 0 0 0 0 (-1)) 59 := by rw [vpm (x := .inl 129) rfl]; rfl
theorem v96_60 {gx gm : Nat → Nat} : vp_V (fs_96.mapIdx (pfv (rho gx gm) ph0 96)) 60 = vp_V (oM gm 0 0 0 0 0 0 (-1)) 60 := by rw [vpm (x := .inl 130) rfl]; rfl
theorem v96 {gx gm : Nat → Nat} : ∀ k, k < 61 → vp_V (oM gm 0 0 0 0 0 0 (-1)) k = vp_V (fs_96.mapIdx (pfv (rho gx gm) ph0 96)) k := by
  have h_0 : ∀ k : Nat, k < 0 → (fun k : Nat => vp_V (oM gm 0 0 0 0 0 0 (-1)) k = vp_V (fs_96.mapIdx (pfv (rho gx gm) ph0 96)) k) k := lt_0
  have h_1 : ∀ k : Nat, k < 1 → (fun k : Nat => vp_V (oM gm 0 0 0 0 0 0 (-1)) k = vp_V (fs_96.mapIdx (pfv (rho gx gm) ph0 96)) k) k := lt_s (p := fun k : Nat => vp_V (oM gm 0 0 0 0 0 0 (-1)) k = vp_V (fs_96.mapIdx (pfv (rho gx gm) ph0 96)) k) h_0 v96_0.symm
  have h_2 : ∀ k : Nat, k < 2 → (fun k : Nat => vp_V (oM gm 0 0 0 0 0 0 (-1)) k = vp_V (fs_96.mapIdx (pfv (rho gx gm) ph0 96)) k) k := lt_s (p := fun k : Nat => vp_V (oM gm 0 0 0 0 0 0 (-1)) k = vp_V (fs_96.mapIdx (pfv (rho gx gm) ph0 96)) k) h_1 v96_1.symm
  have h_3 : ∀ k : Nat, k < 3 → (fun k : Nat => vp_V (oM gm 0 0 0 0 0 0 (-1)) k = vp_V (fs_96.mapIdx (pfv (rho gx gm) ph0 96)) k) k := lt_s (p := fun k : Nat => vp_V (oM gm 0 0 0 0 0 0 (-1)) k = vp_V (fs_96.mapIdx (pfv (rho gx gm) ph0 96)) k) h_2 v96_2.symm
  have h_4 : ∀ k : Nat, k < 4 → (fun k : Nat => vp_V (oM gm 0 0 0 0 0 0 (-1)) k = vp_V (fs_96.mapIdx (pfv (rho gx gm) ph0 96)) k) k := lt_s (p := fun k : Nat => vp_V (oM gm 0 0 0 0 0 0 (-1)) k = vp_V (fs_96.mapIdx (pfv (rho gx gm) ph0 96)) k) h_3 v96_3.symm
  have h_5 : ∀ k : Nat, k < 5 → (fun k : Nat => vp_V (oM gm 0 0 0 0 0 0 (-1)) k = vp_V (fs_96.mapIdx (pfv (rho gx gm) ph0 96)) k) k := lt_s (p := fun k : Nat => vp_V (oM gm 0 0 0 0 0 0 (-1)) k = vp_V (fs_96.mapIdx (pfv (rho gx gm) ph0 96)) k) h_4 v96_4.symm
  have h_6 : ∀ k : Nat, k < 6 → (fun k : Nat => vp_V (oM gm 0 0 0 0 0 0 (-1)) k = vp_V (fs_96.mapIdx (pfv (rho gx gm) ph0 96)) k) k := lt_s (p := fun k : Nat => vp_V (oM gm 0 0 0 0 0 0 (-1)) k = vp_V (fs_96.mapIdx (pfv (rho gx gm) ph0 96)) k) h_5 v96_5.symm
  have h_7 : ∀ k : Nat, k < 7 → (fun k : Nat => vp_V (oM gm 0 0 0 0 0 0 (-1)) k = vp_V (fs_96.mapIdx (pfv (rho gx gm) ph0 96)) k) k := lt_s (p := fun k : Nat => vp_V (oM gm 0 0 0 0 0 0 (-1)) k = vp_V (fs_96.mapIdx (pfv (rho gx gm) ph0 96)) k) h_6 v96_6.symm
  have h_8 : ∀ k : Nat, k < 8 → (fun k : Nat => vp_V (oM gm 0 0 0 0 0 0 (-1)) k = vp_V (fs_96.mapIdx (pfv (rho gx gm) ph0 96)) k) k := lt_s (p := fun k : Nat => vp_V (oM gm 0 0 0 0 0 0 (-1)) k = vp_V (fs_96.mapIdx (pfv (rho gx gm) ph0 96)) k) h_7 v96_7.symm
  have h_9 : ∀ k : Nat, k < 9 → (fun k : Nat => vp_V (oM gm 0 0 0 0 0 0 (-1)) k = vp_V (fs_96.mapIdx (pfv (rho gx gm) ph0 96)) k) k := lt_s (p := fun k : Nat => vp_V (oM gm 0 0 0 0 0 0 (-1)) k = vp_V (fs_96.mapIdx (pfv (rho gx gm) ph0 96)) k) h_8 v96_8.symm
  have h_10 : ∀ k : Nat, k < 10 → (fun k : Nat => vp_V (oM gm 0 0 0 0 0 0 (-1)) k = vp_V (fs_96.mapIdx (pfv (rho gx gm) ph0 96)) k) k := lt_s (p := fun k : Nat => vp_V (oM gm 0 0 0 0 0 0 (-1)) k = vp_V (fs_96.mapIdx (pfv (rho gx gm) ph0 96)) k) h_9 v96_9.symm
  have h_11 : ∀ k : Nat, k < 11 → (fun k : Nat => vp_V (oM gm 0 0 0 0 0 0 (-1)) k = vp_V (fs_96.mapIdx (pfv (rho gx gm) ph0 96)) k) k := lt_s (p := fun k : Nat => vp_V (oM gm 0 0 0 0 0 0 (-1)) k = vp_V (fs_96.mapIdx (pfv (rho gx gm) ph0 96)) k) h_10 v96_10.symm
  have h_12 : ∀ k : Nat, k < 12 → (fun k : Nat => vp_V (oM gm 0 0 0 0 0 0 (-1)) k = vp_V (fs_96.mapIdx (pfv (rho gx gm) ph0 96)) k) k := lt_s (p := fun k : Nat => vp_V (oM gm 0 0 0 0 0 0 (-1)) k = vp_V (fs_96.mapIdx (pfv (rho gx gm) ph0 96)) k) h_11 v96_11.symm
  have h_13 : ∀ k : Nat, k < 13 → (fun k : Nat => vp_V (oM gm 0 0 0 0 0 0 (-1)) k = vp_V (fs_96.mapIdx (pfv (rho gx gm) ph0 96)) k) k := lt_s (p := fun k : Nat => vp_V (oM gm 0 0 0 0 0 0 (-1)) k = vp_V (fs_96.mapIdx (pfv (rho gx gm) ph0 96)) k) h_12 v96_12.symm
  have h_14 : ∀ k : Nat, k < 14 → (fun k : Nat => vp_V (oM gm 0 0 0 0 0 0 (-1)) k = vp_V (fs_96.mapIdx (pfv (rho gx gm) ph0 96)) k) k := lt_s (p := fun k : Nat => vp_V (oM gm 0 0 0 0 0 0 (-1)) k = vp_V (fs_96.mapIdx (pfv (rho gx gm) ph0 96)) k) h_13 v96_13.symm
  have h_15 : ∀ k : Nat, k < 15 → (fun k : Nat => vp_V (oM gm 0 0 0 0 0 0 (-1)) k = vp_V (fs_96.mapIdx (pfv (rho gx gm) ph0 96)) k) k := lt_s (p := fun k : Nat => vp_V (oM gm 0 0 0 0 0 0 (-1)) k = vp_V (fs_96.mapIdx (pfv (rho gx gm) ph0 96)) k) h_14 v96_14.symm
  have h_16 : ∀ k : Nat, k < 16 → (fun k : Nat => vp_V (oM gm 0 0 0 0 0 0 (-1)) k = vp_V (fs_96.mapIdx (pfv (rho gx gm) ph0 96)) k) k := lt_s (p := fun k : Nat => vp_V (oM gm 0 0 0 0 0 0 (-1)) k = vp_V (fs_96.mapIdx (pfv (rho gx gm) ph0 96)) k) h_15 v96_15.symm
  have h_17 : ∀ k : Nat, k < 17 → (fun k : Nat => vp_V (oM gm 0 0 0 0 0 0 (-1)) k = vp_V (fs_96.mapIdx (pfv (rho gx gm) ph0 96)) k) k := lt_s (p := fun k : Nat => vp_V (oM gm 0 0 0 0 0 0 (-1)) k = vp_V (fs_96.mapIdx (pfv (rho gx gm) ph0 96)) k) h_16 v96_16.symm
  have h_18 : ∀ k : Nat, k < 18 → (fun k : Nat => vp_V (oM gm 0 0 0 0 0 0 (-1)) k = vp_V (fs_96.mapIdx (pfv (rho gx gm) ph0 96)) k) k := lt_s (p := fun k : Nat => vp_V (oM gm 0 0 0 0 0 0 (-1)) k = vp_V (fs_96.mapIdx (pfv (rho gx gm) ph0 96)) k) h_17 v96_17.symm
  have h_19 : ∀ k : Nat, k < 19 → (fun k : Nat => vp_V (oM gm 0 0 0 0 0 0 (-1)) k = vp_V (fs_96.mapIdx (pfv (rho gx gm) ph0 96)) k) k := lt_s (p := fun k : Nat => vp_V (oM gm 0 0 0 0 0 0 (-1)) k = vp_V (fs_96.mapIdx (pfv (rho gx gm) ph0 96)) k) h_18 v96_18.symm
  have h_20 : ∀ k : Nat, k < 20 → (fun k : Nat => vp_V (oM gm 0 0 0 0 0 0 (-1)) k = vp_V (fs_96.mapIdx (pfv (rho gx gm) ph0 96)) k) k := lt_s (p := fun k : Nat => vp_V (oM gm 0 0 0 0 0 0 (-1)) k = vp_V (fs_96.mapIdx (pfv (rho gx gm) ph0 96)) k) h_19 v96_19.symm
  have h_21 : ∀ k : Nat, k < 21 → (fun k : Nat => vp_V (oM gm 0 0 0 0 0 0 (-1)) k = vp_V (fs_96.mapIdx (pfv (rho gx gm) ph0 96)) k) k := lt_s (p := fun k : Nat => vp_V (oM gm 0 0 0 0 0 0 (-1)) k = vp_V (fs_96.mapIdx (pfv (rho gx gm) ph0 96)) k) h_20 v96_20.symm
  have h_22 : ∀ k : Nat, k < 22 → (fun k : Nat => vp_V (oM gm 0 0 0 0 0 0 (-1)) k = vp_V (fs_96.mapIdx (pfv (rho gx gm) ph0 96)) k) k := lt_s (p := fun k : Nat => vp_V (oM gm 0 0 0 0 0 0 (-1)) k = vp_V (fs_96.mapIdx (pfv (rho gx gm) ph0 96)) k) h_21 v96_21.symm
  have h_23 : ∀ k : Nat, k < 23 → (fun k : Nat => vp_V (oM gm 0 0 0 0 0 0 (-1)) k = vp_V (fs_96.mapIdx (pfv (rho gx gm) ph0 96)) k) k := lt_s (p := fun k : Nat => vp_V (oM gm 0 0 0 0 0 0 (-1)) k = vp_V (fs_96.mapIdx (pfv (rho gx gm) ph0 96)) k) h_22 v96_22.symm
  have h_24 : ∀ k : Nat, k < 24 → (fun k : Nat => vp_V (oM gm 0 0 0 0 0 0 (-1)) k = vp_V (fs_96.mapIdx (pfv (rho gx gm) ph0 96)) k) k := lt_s (p := fun k : Nat => vp_V (oM gm 0 0 0 0 0 0 (-1)) k = vp_V (fs_96.mapIdx (pfv (rho gx gm) ph0 96)) k) h_23 v96_23.symm
  have h_25 : ∀ k : Nat, k < 25 → (fun k : Nat => vp_V (oM gm 0 0 0 0 0 0 (-1)) k = vp_V (fs_96.mapIdx (pfv (rho gx gm) ph0 96)) k) k := lt_s (p := fun k : Nat => vp_V (oM gm 0 0 0 0 0 0 (-1)) k = vp_V (fs_96.mapIdx (pfv (rho gx gm) ph0 96)) k) h_24 v96_24.symm
  have h_26 : ∀ k : Nat, k < 26 → (fun k : Nat => vp_V (oM gm 0 0 0 0 0 0 (-1)) k = vp_V (fs_96.mapIdx (pfv (rho gx gm) ph0 96)) k) k := lt_s (p := fun k : Nat => vp_V (oM gm 0 0 0 0 0 0 (-1)) k = vp_V (fs_96.mapIdx (pfv (rho gx gm) ph0 96)) k) h_25 v96_25.symm
  have h_27 : ∀ k : Nat, k < 27 → (fun k : Nat => vp_V (oM gm 0 0 0 0 0 0 (-1)) k = vp_V (fs_96.mapIdx (pfv (rho gx gm) ph0 96)) k) k := lt_s (p := fun k : Nat => vp_V (oM gm 0 0 0 0 0 0 (-1)) k = vp_V (fs_96.mapIdx (pfv (rho gx gm) ph0 96)) k) h_26 v96_26.symm
  have h_28 : ∀ k : Nat, k < 28 → (fun k : Nat => vp_V (oM gm 0 0 0 0 0 0 (-1)) k = vp_V (fs_96.mapIdx (pfv (rho gx gm) ph0 96)) k) k := lt_s (p := fun k : Nat => vp_V (oM gm 0 0 0 0 0 0 (-1)) k = vp_V (fs_96.mapIdx (pfv (rho gx gm) ph0 96)) k) h_27 v96_27.symm
  have h_29 : ∀ k : Nat, k < 29 → (fun k : Nat => vp_V (oM gm 0 0 0 0 0 0 (-1)) k = vp_V (fs_96.mapIdx (pfv (rho gx gm) ph0 96)) k) k := lt_s (p := fun k : Nat => vp_V (oM gm 0 0 0 0 0 0 (-1)) k = vp_V (fs_96.mapIdx (pfv (rho gx gm) ph0 96)) k) h_28 v96_28.symm
  have h_30 : ∀ k : Nat, k < 30 → (fun k : Nat => vp_V (oM gm 0 0 0 0 0 0 (-1)) k = vp_V (fs_96.mapIdx (pfv (rho gx gm) ph0 96)) k) k := lt_s (p := fun k : Nat => vp_V (oM gm 0 0 0 0 0 0 (-1)) k = vp_V (fs_96.mapIdx (pfv (rho gx gm) ph0 96)) k) h_29 v96_29.symm
  have h_31 : ∀ k : Nat, k < 31 → (fun k : Nat => vp_V (oM gm 0 0 0 0 0 0 (-1)) k = vp_V (fs_96.mapIdx (pfv (rho gx gm) ph0 96)) k) k := lt_s (p := fun k : Nat => vp_V (oM gm 0 0 0 0 0 0 (-1)) k = vp_V (fs_96.mapIdx (pfv (rho gx gm) ph0 96)) k) h_30 v96_30.symm
  have h_32 : ∀ k : Nat, k < 32 → (fun k : Nat => vp_V (oM gm 0 0 0 0 0 0 (-1)) k = vp_V (fs_96.mapIdx (pfv (rho gx gm) ph0 96)) k) k := lt_s (p := fun k : Nat => vp_V (oM gm 0 0 0 0 0 0 (-1)) k = vp_V (fs_96.mapIdx (pfv (rho gx gm) ph0 96)) k) h_31 v96_31.symm
  have h_33 : ∀ k : Nat, k < 33 → (fun k : Nat => vp_V (oM gm 0 0 0 0 0 0 (-1)) k = vp_V (fs_96.mapIdx (pfv (rho gx gm) ph0 96)) k) k := lt_s (p := fun k : Nat => vp_V (oM gm 0 0 0 0 0 0 (-1)) k = vp_V (fs_96.mapIdx (pfv (rho gx gm) ph0 96)) k) h_32 v96_32.symm
  have h_34 : ∀ k : Nat, k < 34 → (fun k : Nat => vp_V (oM gm 0 0 0 0 0 0 (-1)) k = vp_V (fs_96.mapIdx (pfv (rho gx gm) ph0 96)) k) k := lt_s (p := fun k : Nat => vp_V (oM gm 0 0 0 0 0 0 (-1)) k = vp_V (fs_96.mapIdx (pfv (rho gx gm) ph0 96)) k) h_33 v96_33.symm
  have h_35 : ∀ k : Nat, k < 35 → (fun k : Nat => vp_V (oM gm 0 0 0 0 0 0 (-1)) k = vp_V (fs_96.mapIdx (pfv (rho gx gm) ph0 96)) k) k := lt_s (p := fun k : Nat => vp_V (oM gm 0 0 0 0 0 0 (-1)) k = vp_V (fs_96.mapIdx (pfv (rho gx gm) ph0 96)) k) h_34 v96_34.symm
  have h_36 : ∀ k : Nat, k < 36 → (fun k : Nat => vp_V (oM gm 0 0 0 0 0 0 (-1)) k = vp_V (fs_96.mapIdx (pfv (rho gx gm) ph0 96)) k) k := lt_s (p := fun k : Nat => vp_V (oM gm 0 0 0 0 0 0 (-1)) k = vp_V (fs_96.mapIdx (pfv (rho gx gm) ph0 96)) k) h_35 v96_35.symm
  have h_37 : ∀ k : Nat, k < 37 → (fun k : Nat => vp_V (oM gm 0 0 0 0 0 0 (-1)) k = vp_V (fs_96.mapIdx (pfv (rho gx gm) ph0 96)) k) k := lt_s (p := fun k : Nat => vp_V (oM gm 0 0 0 0 0 0 (-1)) k = vp_V (fs_96.mapIdx (pfv (rho gx gm) ph0 96)) k) h_36 v96_36.symm
  have h_38 : ∀ k : Nat, k < 38 → (fun k : Nat => vp_V (oM gm 0 0 0 0 0 0 (-1)) k = vp_V (fs_96.mapIdx (pfv (rho gx gm) ph0 96)) k) k := lt_s (p := fun k : Nat => vp_V (oM gm 0 0 0 0 0 0 (-1)) k = vp_V (fs_96.mapIdx (pfv (rho gx gm) ph0 96)) k) h_37 v96_37.symm
  have h_39 : ∀ k : Nat, k < 39 → (fun k : Nat => vp_V (oM gm 0 0 0 0 0 0 (-1)) k = vp_V (fs_96.mapIdx (pfv (rho gx gm) ph0 96)) k) k := lt_s (p := fun k : Nat => vp_V (oM gm 0 0 0 0 0 0 (-1)) k = vp_V (fs_96.mapIdx (pfv (rho gx gm) ph0 96)) k) h_38 v96_38.symm
  have h_40 : ∀ k : Nat, k < 40 → (fun k : Nat => vp_V (oM gm 0 0 0 0 0 0 (-1)) k = vp_V (fs_96.mapIdx (pfv (rho gx gm) ph0 96)) k) k := lt_s (p := fun k : Nat => vp_V (oM gm 0 0 0 0 0 0 (-1)) k = vp_V (fs_96.mapIdx (pfv (rho gx gm) ph0 96)) k) h_39 v96_39.symm
  have h_41 : ∀ k : Nat, k < 41 → (fun k : Nat => vp_V (oM gm 0 0 0 0 0 0 (-1)) k = vp_V (fs_96.mapIdx (pfv (rho gx gm) ph0 96)) k) k := lt_s (p := fun k : Nat => vp_V (oM gm 0 0 0 0 0 0 (-1)) k = vp_V (fs_96.mapIdx (pfv (rho gx gm) ph0 96)) k) h_40 v96_40.symm
  have h_42 : ∀ k : Nat, k < 42 → (fun k : Nat => vp_V (oM gm 0 0 0 0 0 0 (-1)) k = vp_V (fs_96.mapIdx (pfv (rho gx gm) ph0 96)) k) k := lt_s (p := fun k : Nat => vp_V (oM gm 0 0 0 0 0 0 (-1)) k = vp_V (fs_96.mapIdx (pfv (rho gx gm) ph0 96)) k) h_41 v96_41.symm
  have h_43 : ∀ k : Nat, k < 43 → (fun k : Nat => vp_V (oM gm 0 0 0 0 0 0 (-1)) k = vp_V (fs_96.mapIdx (pfv (rho gx gm) ph0 96)) k) k := lt_s (p := fun k : Nat => vp_V (oM gm 0 0 0 0 0 0 (-1)) k = vp_V (fs_96.mapIdx (pfv (rho gx gm) ph0 96)) k) h_42 v96_42.symm
  have h_44 : ∀ k : Nat, k < 44 → (fun k : Nat => vp_V (oM gm 0 0 0 0 0 0 (-1)) k = vp_V (fs_96.mapIdx (pfv (rho gx gm) ph0 96)) k) k := lt_s (p := fun k : Nat => vp_V (oM gm 0 0 0 0 0 0 (-1)) k = vp_V (fs_96.mapIdx (pfv (rho gx gm) ph0 96)) k) h_43 v96_43.symm
  have h_45 : ∀ k : Nat, k < 45 → (fun k : Nat => vp_V (oM gm 0 0 0 0 0 0 (-1)) k = vp_V (fs_96.mapIdx (pfv (rho gx gm) ph0 96)) k) k := lt_s (p := fun k : Nat => vp_V (oM gm 0 0 0 0 0 0 (-1)) k = vp_V (fs_96.mapIdx (pfv (rho gx gm) ph0 96)) k) h_44 v96_44.symm
  have h_46 : ∀ k : Nat, k < 46 → (fun k : Nat => vp_V (oM gm 0 0 0 0 0 0 (-1)) k = vp_V (fs_96.mapIdx (pfv (rho gx gm) ph0 96)) k) k := lt_s (p := fun k : Nat => vp_V (oM gm 0 0 0 0 0 0 (-1)) k = vp_V (fs_96.mapIdx (pfv (rho gx gm) ph0 96)) k) h_45 v96_45.symm
  have h_47 : ∀ k : Nat, k < 47 → (fun k : Nat => vp_V (oM gm 0 0 0 0 0 0 (-1)) k = vp_V (fs_96.mapIdx (pfv (rho gx gm) ph0 96)) k) k := lt_s (p := fun k : Nat => vp_V (oM gm 0 0 0 0 0 0 (-1)) k = vp_V (fs_96.mapIdx (pfv (rho gx gm) ph0 96)) k) h_46 v96_46.symm
  have h_48 : ∀ k : Nat, k < 48 → (fun k : Nat => vp_V (oM gm 0 0 0 0 0 0 (-1)) k = vp_V (fs_96.mapIdx (pfv (rho gx gm) ph0 96)) k) k := lt_s (p := fun k : Nat => vp_V (oM gm 0 0 0 0 0 0 (-1)) k = vp_V (fs_96.mapIdx (pfv (rho gx gm) ph0 96)) k) h_47 v96_47.symm
  have h_49 : ∀ k : Nat, k < 49 → (fun k : Nat => vp_V (oM gm 0 0 0 0 0 0 (-1)) k = vp_V (fs_96.mapIdx (pfv (rho gx gm) ph0 96)) k) k := lt_s (p := fun k : Nat => vp_V (oM gm 0 0 0 0 0 0 (-1)) k = vp_V (fs_96.mapIdx (pfv (rho gx gm) ph0 96)) k) h_48 v96_48.symm
  have h_50 : ∀ k : Nat, k < 50 → (fun k : Nat => vp_V (oM gm 0 0 0 0 0 0 (-1)) k = vp_V (fs_96.mapIdx (pfv (rho gx gm) ph0 96)) k) k := lt_s (p := fun k : Nat => vp_V (oM gm 0 0 0 0 0 0 (-1)) k = vp_V (fs_96.mapIdx (pfv (rho gx gm) ph0 96)) k) h_49 v96_49.symm
  have h_51 : ∀ k : Nat, k < 51 → (fun k : Nat => vp_V (oM gm 0 0 0 0 0 0 (-1)) k = vp_V (fs_96.mapIdx (pfv (rho gx gm) ph0 96)) k) k := lt_s (p := fun k : Nat => vp_V (oM gm 0 0 0 0 0 0 (-1)) k = vp_V (fs_96.mapIdx (pfv (rho gx gm) ph0 96)) k) h_50 v96_50.symm
  have h_52 : ∀ k : Nat, k < 52 → (fun k : Nat => vp_V (oM gm 0 0 0 0 0 0 (-1)) k = vp_V (fs_96.mapIdx (pfv (rho gx gm) ph0 96)) k) k := lt_s (p := fun k : Nat => vp_V (oM gm 0 0 0 0 0 0 (-1)) k = vp_V (fs_96.mapIdx (pfv (rho gx gm) ph0 96)) k) h_51 v96_51.symm
  have h_53 : ∀ k : Nat, k < 53 → (fun k : Nat => vp_V (oM gm 0 0 0 0 0 0 (-1)) k = vp_V (fs_96.mapIdx (pfv (rho gx gm) ph0 96)) k) k := lt_s (p := fun k : Nat => vp_V (oM gm 0 0 0 0 0 0 (-1)) k = vp_V (fs_96.mapIdx (pfv (rho gx gm) ph0 96)) k) h_52 v96_52.symm
  have h_54 : ∀ k : Nat, k < 54 → (fun k : Nat => vp_V (oM gm 0 0 0 0 0 0 (-1)) k = vp_V (fs_96.mapIdx (pfv (rho gx gm) ph0 96)) k) k := lt_s (p := fun k : Nat => vp_V (oM gm 0 0 0 0 0 0 (-1)) k = vp_V (fs_96.mapIdx (pfv (rho gx gm) ph0 96)) k) h_53 v96_53.symm
  have h_55 : ∀ k : Nat, k < 55 → (fun k : Nat => vp_V (oM gm 0 0 0 0 0 0 (-1)) k = vp_V (fs_96.mapIdx (pfv (rho gx gm) ph0 96)) k) k := lt_s (p := fun k : Nat => vp_V (oM gm 0 0 0 0 0 0 (-1)) k = vp_V (fs_96.mapIdx (pfv (rho gx gm) ph0 96)) k) h_54 v96_54.symm
  have h_56 : ∀ k : Nat, k < 56 → (fun k : Nat => vp_V (oM gm 0 0 0 0 0 0 (-1)) k = vp_V (fs_96.mapIdx (pfv (rho gx gm) ph0 96)) k) k := lt_s (p := fun k : Nat => vp_V (oM gm 0 0 0 0 0 0 (-1)) k = vp_V (fs_96.mapIdx (pfv (rho gx gm) ph0 96)) k) h_55 v96_55.symm
  have h_57 : ∀ k : Nat, k < 57 → (fun k : Nat => vp_V (oM gm 0 0 0 0 0 0 (-1)) k = vp_V (fs_96.mapIdx (pfv (rho gx gm) ph0 96)) k) k := lt_s (p := fun k : Nat => vp_V (oM gm 0 0 0 0 0 0 (-1)) k = vp_V (fs_96.mapIdx (pfv (rho gx gm) ph0 96)) k) h_56 v96_56.symm
  have h_58 : ∀ k : Nat, k < 58 → (fun k : Nat => vp_V (oM gm 0 0 0 0 0 0 (-1)) k = vp_V (fs_96.mapIdx (pfv (rho gx gm) ph0 96)) k) k := lt_s (p := fun k : Nat => vp_V (oM gm 0 0 0 0 0 0 (-1)) k = vp_V (fs_96.mapIdx (pfv (rho gx gm) ph0 96)) k) h_57 v96_57.symm
  have h_59 : ∀ k : Nat, k < 59 → (fun k : Nat => vp_V (oM gm 0 0 0 0 0 0 (-1)) k = vp_V (fs_96.mapIdx (pfv (rho gx gm) ph0 96)) k) k := lt_s (p := fun k : Nat => vp_V (oM gm 0 0 0 0 0 0 (-1)) k = vp_V (fs_96.mapIdx (pfv (rho gx gm) ph0 96)) k) h_58 v96_58.symm
  have h_60 : ∀ k : Nat, k < 60 → (fun k : Nat => vp_V (oM gm 0 0 0 0 0 0 (-1)) k = vp_V (fs_96.mapIdx (pfv (rho gx gm) ph0 96)) k) k := lt_s (p := fun k : Nat => vp_V (oM gm 0 0 0 0 0 0 (-1)) k = vp_V (fs_96.mapIdx (pfv (rho gx gm) ph0 96)) k) h_59 v96_59.symm
  have h_61 : ∀ k : Nat, k < 61 → (fun k : Nat => vp_V (oM gm 0 0 0 0 0 0 (-1)) k = vp_V (fs_96.mapIdx (pfv (rho gx gm) ph0 96)) k) k := lt_s (p := fun k : Nat => vp_V (oM gm 0 0 0 0 0 0 (-1)) k = vp_V (fs_96.mapIdx (pfv (rho gx gm) ph0 96)) k) h_60 v96_60.symm
  exact h_61
theorem va96 {dC : Nat → ClassId} {dI : Nat → Nat → Nat} {gx gm : Nat → Nat} {H : Heap} (z : va_at (dC, dI) vwCl (gm 0, .inr (9, oM gm 0 0 0 0 0 0 (-1))) H) : va_at (dC, dI) vwCl (rho gx gm 96, .inr (9, fs_96.mapIdx (pfv (rho gx gm) ph0 96))) H := by
  obtain ⟨r0, e0, cell, z1, z2, z3, z4⟩ := z
  have hr : r0.2.2 = 61 := by cases e0; rfl
  refine ⟨r0, e0, cell, z1, z2, z3, fun k hk => ?_⟩
  have e := v96 (gx := gx) (gm := gm) k (by omega)
  have z5 := z4 k hk
  generalize vp_V (fs_96.mapIdx (pfv (rho gx gm) ph0 96)) k = B at e ⊢
  rw [← e]
  exact z5
set_option maxRecDepth 100000 in
theorem pb_96 {dC : Nat → ClassId} {dI : Nat → Nat → Nat} {s : State} {gx gm : Nat → Nat} {ax am : Nat → ClassId} {H : Heap} (hK : va_K (dC, dI) vwCl (tX ax ++ tM am) s) (hP : va_P (dC, dI) vwCl (wX gx ax ++ wM gm am) H) : ∀ q, (toW (rho gx gm) (clA ax) ph0)[96]? = some q → va_at (dC, dI) vwCl q H := fun q hq => by
  have z : va_at (dC, dI) vwCl (gm 0, .inr (9, oM gm 0 0 0 0 0 0 (-1))) H := hP 96 _ rfl
  rw [toW_at sh_96] at hq
  rw [← Option.some.inj hq]
  exact va96 z
set_option maxRecDepth 100000 in
theorem pb_97 {dC : Nat → ClassId} {dI : Nat → Nat → Nat} {s : State} {gx gm : Nat → Nat} {ax am : Nat → ClassId} {H : Heap} (hK : va_K (dC, dI) vwCl (tX ax ++ tM am) s) (hP : va_P (dC, dI) vwCl (wX gx ax ++ wM gm am) H) : ∀ q, (toW (rho gx gm) (clA ax) ph0)[97]? = some q → va_at (dC, dI) vwCl q H := fun q hq => by
  cases (toW_at sh_97).symm.trans hq
  have z : H[gm 1]? = some (vp_cell (am 1) (68, .inl (fun _ => 0))) := hP 97 _ rfl
  rw [show am 1 = ax 5 from ra_int (hK.2 83 _ rfl).2 (hK.2 1 _ rfl).2] at z
  exact z
set_option maxRecDepth 100000 in
theorem pb_98 {dC : Nat → ClassId} {dI : Nat → Nat → Nat} {s : State} {gx gm : Nat → Nat} {ax am : Nat → ClassId} {H : Heap} (hK : va_K (dC, dI) vwCl (tX ax ++ tM am) s) (hP : va_P (dC, dI) vwCl (wX gx ax ++ wM gm am) H) : ∀ q, (toW (rho gx gm) (clA ax) ph0)[98]? = some q → va_at (dC, dI) vwCl q H := fun q hq => by
  cases (toW_at sh_98).symm.trans hq
  have z : H[gm 2]? = some (vp_cell (am 2) (204, .inl (fun _ => 0))) := hP 98 _ rfl
  rw [show am 2 = ax 5 from ra_int (hK.2 84 _ rfl).2 (hK.2 1 _ rfl).2] at z
  exact z
set_option maxRecDepth 100000 in
theorem pb_99 {dC : Nat → ClassId} {dI : Nat → Nat → Nat} {s : State} {gx gm : Nat → Nat} {ax am : Nat → ClassId} {H : Heap} (hK : va_K (dC, dI) vwCl (tX ax ++ tM am) s) (hP : va_P (dC, dI) vwCl (wX gx ax ++ wM gm am) H) : ∀ q, (toW (rho gx gm) (clA ax) ph0)[99]? = some q → va_at (dC, dI) vwCl q H := fun q hq => by
  cases (toW_at sh_99).symm.trans hq
  have z : H[gm 3]? = some (vp_cell (am 3) (3, .inl (fun _ => 0))) := hP 99 _ rfl
  rw [show am 3 = ax 65 from ra_boolean (hK.2 85 _ rfl).2 (hK.2 57 _ rfl).2] at z
  exact z
set_option maxRecDepth 100000 in
theorem pb_100 {dC : Nat → ClassId} {dI : Nat → Nat → Nat} {s : State} {gx gm : Nat → Nat} {ax am : Nat → ClassId} {H : Heap} (hK : va_K (dC, dI) vwCl (tX ax ++ tM am) s) (hP : va_P (dC, dI) vwCl (wX gx ax ++ wM gm am) H) : ∀ q, (toW (rho gx gm) (clA ax) ph0)[100]? = some q → va_at (dC, dI) vwCl q H := fun q hq => by
  cases (toW_at sh_100).symm.trans hq
  have z : H[gm 4]? = some (vp_cell (am 4) (500, .inl (fun _ => 0))) := hP 100 _ rfl
  rw [show am 4 = ax 3 from ra_byte (hK.2 86 _ rfl).2 (hK.2 0 _ rfl).2] at z
  exact z
set_option maxRecDepth 100000 in
theorem pb_101 {dC : Nat → ClassId} {dI : Nat → Nat → Nat} {s : State} {gx gm : Nat → Nat} {ax am : Nat → ClassId} {H : Heap} (hK : va_K (dC, dI) vwCl (tX ax ++ tM am) s) (hP : va_P (dC, dI) vwCl (wX gx ax ++ wM gm am) H) : ∀ q, (toW (rho gx gm) (clA ax) ph0)[101]? = some q → va_at (dC, dI) vwCl q H := fun q hq => by
  cases (toW_at sh_101).symm.trans hq
  have z : H[gm 6]? = some (vp_cell (am 6) (5, .inl (fun _ => 0))) := hP 101 _ rfl
  rw [show am 6 = ax 5 from ra_int (hK.2 87 _ rfl).2 (hK.2 1 _ rfl).2] at z
  exact z
set_option maxRecDepth 100000 in
theorem pb_102 {dC : Nat → ClassId} {dI : Nat → Nat → Nat} {s : State} {gx gm : Nat → Nat} {ax am : Nat → ClassId} {H : Heap} (hK : va_K (dC, dI) vwCl (tX ax ++ tM am) s) (hP : va_P (dC, dI) vwCl (wX gx ax ++ wM gm am) H) : ∀ q, (toW (rho gx gm) (clA ax) ph0)[102]? = some q → va_at (dC, dI) vwCl q H := fun q hq => by
  cases (toW_at sh_102).symm.trans hq
  have z : H[gm 14]? = some (vp_cell (am 14) (68, .inl (fun _ => 0))) := hP 102 _ rfl
  rw [show am 14 = ax 5 from ra_int (hK.2 88 _ rfl).2 (hK.2 1 _ rfl).2] at z
  exact z
set_option maxRecDepth 100000 in
theorem pb_103 {dC : Nat → ClassId} {dI : Nat → Nat → Nat} {s : State} {gx gm : Nat → Nat} {ax am : Nat → ClassId} {H : Heap} (hK : va_K (dC, dI) vwCl (tX ax ++ tM am) s) (hP : va_P (dC, dI) vwCl (wX gx ax ++ wM gm am) H) : ∀ q, (toW (rho gx gm) (clA ax) ph0)[103]? = some q → va_at (dC, dI) vwCl q H := fun q hq => by
  cases (toW_at sh_103).symm.trans hq
  have z : H[gm 15]? = some (vp_cell (am 15) (6, .inl (fun _ => 0))) := hP 103 _ rfl
  rw [show am 15 = ax 5 from ra_int (hK.2 89 _ rfl).2 (hK.2 1 _ rfl).2] at z
  exact z
set_option maxRecDepth 100000 in
theorem pb_104 {dC : Nat → ClassId} {dI : Nat → Nat → Nat} {s : State} {gx gm : Nat → Nat} {ax am : Nat → ClassId} {H : Heap} (hK : va_K (dC, dI) vwCl (tX ax ++ tM am) s) (hP : va_P (dC, dI) vwCl (wX gx ax ++ wM gm am) H) : ∀ q, (toW (rho gx gm) (clA ax) ph0)[104]? = some q → va_at (dC, dI) vwCl q H := fun q hq => by
  cases (toW_at sh_104).symm.trans hq
  have z : H[gm 16]? = some (vp_cell (am 16) (360, .inl (fun _ => 0))) := hP 104 _ rfl
  rw [show am 16 = ax 65 from ra_boolean (hK.2 90 _ rfl).2 (hK.2 57 _ rfl).2] at z
  exact z
set_option maxRecDepth 100000 in
theorem pb_105 {dC : Nat → ClassId} {dI : Nat → Nat → Nat} {s : State} {gx gm : Nat → Nat} {ax am : Nat → ClassId} {H : Heap} (hK : va_K (dC, dI) vwCl (tX ax ++ tM am) s) (hP : va_P (dC, dI) vwCl (wX gx ax ++ wM gm am) H) : ∀ q, (toW (rho gx gm) (clA ax) ph0)[105]? = some q → va_at (dC, dI) vwCl q H := fun q hq => by
  cases (toW_at sh_105).symm.trans hq
  have z : H[gm 17]? = some (vp_cell (am 17) (6, .inl (fun _ => 0))) := hP 105 _ rfl
  rw [show am 17 = ax 5 from ra_int (hK.2 91 _ rfl).2 (hK.2 1 _ rfl).2] at z
  exact z
set_option maxRecDepth 100000 in
theorem pb_106 {dC : Nat → ClassId} {dI : Nat → Nat → Nat} {s : State} {gx gm : Nat → Nat} {ax am : Nat → ClassId} {H : Heap} (hK : va_K (dC, dI) vwCl (tX ax ++ tM am) s) (hP : va_P (dC, dI) vwCl (wX gx ax ++ wM gm am) H) : ∀ q, (toW (rho gx gm) (clA ax) ph0)[106]? = some q → va_at (dC, dI) vwCl q H := fun q hq => by
  cases (toW_at sh_106).symm.trans hq
  have z : H[gm 21]? = some (vp_cell (am 21) (60, .inl (fun _ => 0))) := hP 106 _ rfl
  rw [show am 21 = ax 65 from ra_boolean (hK.2 92 _ rfl).2 (hK.2 57 _ rfl).2] at z
  exact z
set_option maxRecDepth 100000 in
theorem pb_107 {dC : Nat → ClassId} {dI : Nat → Nat → Nat} {s : State} {gx gm : Nat → Nat} {ax am : Nat → ClassId} {H : Heap} (hK : va_K (dC, dI) vwCl (tX ax ++ tM am) s) (hP : va_P (dC, dI) vwCl (wX gx ax ++ wM gm am) H) : ∀ q, (toW (rho gx gm) (clA ax) ph0)[107]? = some q → va_at (dC, dI) vwCl q H := fun q hq => by
  cases (toW_at sh_107).symm.trans hq
  have z : H[gm 22]? = some (vp_cell (am 22) (6, .inl (fun _ => 0))) := hP 107 _ rfl
  rw [show am 22 = ax 5 from ra_int (hK.2 93 _ rfl).2 (hK.2 1 _ rfl).2] at z
  exact z
set_option maxRecDepth 100000 in
theorem pb_108 {dC : Nat → ClassId} {dI : Nat → Nat → Nat} {s : State} {gx gm : Nat → Nat} {ax am : Nat → ClassId} {H : Heap} (hK : va_K (dC, dI) vwCl (tX ax ++ tM am) s) (hP : va_P (dC, dI) vwCl (wX gx ax ++ wM gm am) H) : ∀ q, (toW (rho gx gm) (clA ax) ph0)[108]? = some q → va_at (dC, dI) vwCl q H := fun q hq => by
  cases (toW_at sh_108).symm.trans hq
  have z : H[gm 23]? = some (vp_cell (am 23) (6, .inl (fun _ => 0))) := hP 108 _ rfl
  rw [show am 23 = ax 5 from ra_int (hK.2 94 _ rfl).2 (hK.2 1 _ rfl).2] at z
  exact z
set_option maxRecDepth 100000 in
theorem pb_109 {dC : Nat → ClassId} {dI : Nat → Nat → Nat} {s : State} {gx gm : Nat → Nat} {ax am : Nat → ClassId} {H : Heap} (hK : va_K (dC, dI) vwCl (tX ax ++ tM am) s) (hP : va_P (dC, dI) vwCl (wX gx ax ++ wM gm am) H) : ∀ q, (toW (rho gx gm) (clA ax) ph0)[109]? = some q → va_at (dC, dI) vwCl q H := fun q hq => by
  cases (toW_at sh_109).symm.trans hq
  have z : H[gm 24]? = some (vp_cell (am 24) (23, .inl (fun _ => 0))) := hP 109 _ rfl
  rw [show am 24 = ax 5 from ra_int (hK.2 95 _ rfl).2 (hK.2 1 _ rfl).2] at z
  exact z
set_option maxRecDepth 100000 in
theorem pb_110 {dC : Nat → ClassId} {dI : Nat → Nat → Nat} {s : State} {gx gm : Nat → Nat} {ax am : Nat → ClassId} {H : Heap} (hK : va_K (dC, dI) vwCl (tX ax ++ tM am) s) (hP : va_P (dC, dI) vwCl (wX gx ax ++ wM gm am) H) : ∀ q, (toW (rho gx gm) (clA ax) ph0)[110]? = some q → va_at (dC, dI) vwCl q H := fun q hq => by
  cases (toW_at sh_110).symm.trans hq
  have z : H[gm 25]? = some (vp_cell (am 25) (360, .inl (fun _ => 0))) := hP 110 _ rfl
  rw [show am 25 = ax 5 from ra_int (hK.2 96 _ rfl).2 (hK.2 1 _ rfl).2] at z
  exact z
set_option maxRecDepth 100000 in
theorem pb_111 {dC : Nat → ClassId} {dI : Nat → Nat → Nat} {s : State} {gx gm : Nat → Nat} {ax am : Nat → ClassId} {H : Heap} (hK : va_K (dC, dI) vwCl (tX ax ++ tM am) s) (hP : va_P (dC, dI) vwCl (wX gx ax ++ wM gm am) H) : ∀ q, (toW (rho gx gm) (clA ax) ph0)[111]? = some q → va_at (dC, dI) vwCl q H := fun q hq => by
  cases (toW_at sh_111).symm.trans hq
  have z : H[gm 26]? = some (vp_cell (am 26) (360, .inl (fun _ => 0))) := hP 111 _ rfl
  rw [show am 26 = ax 5 from ra_int (hK.2 97 _ rfl).2 (hK.2 1 _ rfl).2] at z
  exact z
set_option maxRecDepth 100000 in
theorem pb_112 {dC : Nat → ClassId} {dI : Nat → Nat → Nat} {s : State} {gx gm : Nat → Nat} {ax am : Nat → ClassId} {H : Heap} (hK : va_K (dC, dI) vwCl (tX ax ++ tM am) s) (hP : va_P (dC, dI) vwCl (wX gx ax ++ wM gm am) H) : ∀ q, (toW (rho gx gm) (clA ax) ph0)[112]? = some q → va_at (dC, dI) vwCl q H := fun q hq => by
  cases (toW_at sh_112).symm.trans hq
  have z : H[gm 27]? = some (vp_cell (am 27) (60, .inl (fun _ => 0))) := hP 112 _ rfl
  rw [show am 27 = ax 5 from ra_int (hK.2 98 _ rfl).2 (hK.2 1 _ rfl).2] at z
  exact z
set_option maxRecDepth 100000 in
theorem pb_113 {dC : Nat → ClassId} {dI : Nat → Nat → Nat} {s : State} {gx gm : Nat → Nat} {ax am : Nat → ClassId} {H : Heap} (hK : va_K (dC, dI) vwCl (tX ax ++ tM am) s) (hP : va_P (dC, dI) vwCl (wX gx ax ++ wM gm am) H) : ∀ q, (toW (rho gx gm) (clA ax) ph0)[113]? = some q → va_at (dC, dI) vwCl q H := fun q hq => by
  cases (toW_at sh_113).symm.trans hq
  have z : H[gm 28]? = some (vp_cell (am 28) (60, .inl (fun _ => 0))) := hP 113 _ rfl
  rw [show am 28 = ax 5 from ra_int (hK.2 99 _ rfl).2 (hK.2 1 _ rfl).2] at z
  exact z
set_option maxRecDepth 100000 in
theorem pb_114 {dC : Nat → ClassId} {dI : Nat → Nat → Nat} {s : State} {gx gm : Nat → Nat} {ax am : Nat → ClassId} {H : Heap} (hK : va_K (dC, dI) vwCl (tX ax ++ tM am) s) (hP : va_P (dC, dI) vwCl (wX gx ax ++ wM gm am) H) : ∀ q, (toW (rho gx gm) (clA ax) ph0)[114]? = some q → va_at (dC, dI) vwCl q H := fun q hq => by
  cases (toW_at sh_114).symm.trans hq
  have z : H[gm 29]? = some (vp_cell (am 29) (60, .inl (fun _ => 0))) := hP 114 _ rfl
  rw [show am 29 = ax 5 from ra_int (hK.2 100 _ rfl).2 (hK.2 1 _ rfl).2] at z
  exact z
set_option maxRecDepth 100000 in
theorem pb_115 {dC : Nat → ClassId} {dI : Nat → Nat → Nat} {s : State} {gx gm : Nat → Nat} {ax am : Nat → ClassId} {H : Heap} (hK : va_K (dC, dI) vwCl (tX ax ++ tM am) s) (hP : va_P (dC, dI) vwCl (wX gx ax ++ wM gm am) H) : ∀ q, (toW (rho gx gm) (clA ax) ph0)[115]? = some q → va_at (dC, dI) vwCl q H := fun q hq => by
  cases (toW_at sh_115).symm.trans hq
  have z : H[gm 30]? = some (vp_cell (am 30) (60, .inl (fun _ => 0))) := hP 115 _ rfl
  rw [show am 30 = ax 5 from ra_int (hK.2 101 _ rfl).2 (hK.2 1 _ rfl).2] at z
  exact z
set_option maxRecDepth 100000 in
theorem pb_116 {dC : Nat → ClassId} {dI : Nat → Nat → Nat} {s : State} {gx gm : Nat → Nat} {ax am : Nat → ClassId} {H : Heap} (hK : va_K (dC, dI) vwCl (tX ax ++ tM am) s) (hP : va_P (dC, dI) vwCl (wX gx ax ++ wM gm am) H) : ∀ q, (toW (rho gx gm) (clA ax) ph0)[116]? = some q → va_at (dC, dI) vwCl q H := fun q hq => by
  cases (toW_at sh_116).symm.trans hq
  have z : H[gm 31]? = some (vp_cell (am 31) (60, .inl (fun _ => 0))) := hP 116 _ rfl
  rw [show am 31 = ax 5 from ra_int (hK.2 102 _ rfl).2 (hK.2 1 _ rfl).2] at z
  exact z
set_option maxRecDepth 100000 in
theorem pb_117 {dC : Nat → ClassId} {dI : Nat → Nat → Nat} {s : State} {gx gm : Nat → Nat} {ax am : Nat → ClassId} {H : Heap} (hK : va_K (dC, dI) vwCl (tX ax ++ tM am) s) (hP : va_P (dC, dI) vwCl (wX gx ax ++ wM gm am) H) : ∀ q, (toW (rho gx gm) (clA ax) ph0)[117]? = some q → va_at (dC, dI) vwCl q H := fun q hq => by
  cases (toW_at sh_117).symm.trans hq
  have z : H[gm 32]? = some (vp_cell (am 32) (6, .inl (fun _ => 0))) := hP 117 _ rfl
  rw [show am 32 = ax 5 from ra_int (hK.2 103 _ rfl).2 (hK.2 1 _ rfl).2] at z
  exact z
set_option maxRecDepth 100000 in
theorem pb_118 {dC : Nat → ClassId} {dI : Nat → Nat → Nat} {s : State} {gx gm : Nat → Nat} {ax am : Nat → ClassId} {H : Heap} (hK : va_K (dC, dI) vwCl (tX ax ++ tM am) s) (hP : va_P (dC, dI) vwCl (wX gx ax ++ wM gm am) H) : ∀ q, (toW (rho gx gm) (clA ax) ph0)[118]? = some q → va_at (dC, dI) vwCl q H := fun q hq => by
  cases (toW_at sh_118).symm.trans hq
  have z : H[gm 33]? = some (vp_cell (am 33) (6, .inl (fun _ => 0))) := hP 118 _ rfl
  rw [show am 33 = ax 5 from ra_int (hK.2 104 _ rfl).2 (hK.2 1 _ rfl).2] at z
  exact z
set_option maxRecDepth 100000 in
theorem pb_119 {dC : Nat → ClassId} {dI : Nat → Nat → Nat} {s : State} {gx gm : Nat → Nat} {ax am : Nat → ClassId} {H : Heap} (hK : va_K (dC, dI) vwCl (tX ax ++ tM am) s) (hP : va_P (dC, dI) vwCl (wX gx ax ++ wM gm am) H) : ∀ q, (toW (rho gx gm) (clA ax) ph0)[119]? = some q → va_at (dC, dI) vwCl q H := fun q hq => by
  cases (toW_at sh_119).symm.trans hq
  have z : H[gm 37]? = some (vp_cell (am 37) (6, .inl (fun _ => 0))) := hP 119 _ rfl
  rw [show am 37 = ax 5 from ra_int (hK.2 105 _ rfl).2 (hK.2 1 _ rfl).2] at z
  exact z
set_option maxRecDepth 100000 in
theorem pb_120 {dC : Nat → ClassId} {dI : Nat → Nat → Nat} {s : State} {gx gm : Nat → Nat} {ax am : Nat → ClassId} {H : Heap} (hK : va_K (dC, dI) vwCl (tX ax ++ tM am) s) (hP : va_P (dC, dI) vwCl (wX gx ax ++ wM gm am) H) : ∀ q, (toW (rho gx gm) (clA ax) ph0)[120]? = some q → va_at (dC, dI) vwCl q H := fun q hq => by
  cases (toW_at sh_120).symm.trans hq
  have z : H[gm 38]? = some (vp_cell (am 38) (60, .inl (fun _ => 0))) := hP 120 _ rfl
  rw [show am 38 = ax 5 from ra_int (hK.2 106 _ rfl).2 (hK.2 1 _ rfl).2] at z
  exact z
set_option maxRecDepth 100000 in
theorem pb_121 {dC : Nat → ClassId} {dI : Nat → Nat → Nat} {s : State} {gx gm : Nat → Nat} {ax am : Nat → ClassId} {H : Heap} (hK : va_K (dC, dI) vwCl (tX ax ++ tM am) s) (hP : va_P (dC, dI) vwCl (wX gx ax ++ wM gm am) H) : ∀ q, (toW (rho gx gm) (clA ax) ph0)[121]? = some q → va_at (dC, dI) vwCl q H := fun q hq => by
  cases (toW_at sh_121).symm.trans hq
  have z : H[gm 39]? = some (vp_cell (am 39) (29, .inl (fun _ => 0))) := hP 121 _ rfl
  rw [show am 39 = ax 5 from ra_int (hK.2 107 _ rfl).2 (hK.2 1 _ rfl).2] at z
  exact z
set_option maxRecDepth 100000 in
theorem pb_122 {dC : Nat → ClassId} {dI : Nat → Nat → Nat} {s : State} {gx gm : Nat → Nat} {ax am : Nat → ClassId} {H : Heap} (hK : va_K (dC, dI) vwCl (tX ax ++ tM am) s) (hP : va_P (dC, dI) vwCl (wX gx ax ++ wM gm am) H) : ∀ q, (toW (rho gx gm) (clA ax) ph0)[122]? = some q → va_at (dC, dI) vwCl q H := fun q hq => by
  cases (toW_at sh_122).symm.trans hq
  have z : H[gm 40]? = some (vp_cell (am 40) (29, .inl (fun _ => 0))) := hP 122 _ rfl
  rw [show am 40 = ax 5 from ra_int (hK.2 108 _ rfl).2 (hK.2 1 _ rfl).2] at z
  exact z
set_option maxRecDepth 100000 in
theorem pb_123 {dC : Nat → ClassId} {dI : Nat → Nat → Nat} {s : State} {gx gm : Nat → Nat} {ax am : Nat → ClassId} {H : Heap} (hK : va_K (dC, dI) vwCl (tX ax ++ tM am) s) (hP : va_P (dC, dI) vwCl (wX gx ax ++ wM gm am) H) : ∀ q, (toW (rho gx gm) (clA ax) ph0)[123]? = some q → va_at (dC, dI) vwCl q H := fun q hq => by
  cases (toW_at sh_123).symm.trans hq
  have z : H[gm 45]? = some (vp_cell (am 45) (6, .inl (fun _ => 0))) := hP 123 _ rfl
  rw [show am 45 = ax 5 from ra_int (hK.2 109 _ rfl).2 (hK.2 1 _ rfl).2] at z
  exact z
set_option maxRecDepth 100000 in
theorem pb_124 {dC : Nat → ClassId} {dI : Nat → Nat → Nat} {s : State} {gx gm : Nat → Nat} {ax am : Nat → ClassId} {H : Heap} (hK : va_K (dC, dI) vwCl (tX ax ++ tM am) s) (hP : va_P (dC, dI) vwCl (wX gx ax ++ wM gm am) H) : ∀ q, (toW (rho gx gm) (clA ax) ph0)[124]? = some q → va_at (dC, dI) vwCl q H := fun q hq => by
  cases (toW_at sh_124).symm.trans hq
  have z : H[gm 49]? = some (vp_cell (am 49) (4320, .inl (fun _ => 0))) := hP 124 _ rfl
  rw [show am 49 = ax 3 from ra_byte (hK.2 110 _ rfl).2 (hK.2 0 _ rfl).2] at z
  exact z
set_option maxRecDepth 100000 in
theorem pb_125 {dC : Nat → ClassId} {dI : Nat → Nat → Nat} {s : State} {gx gm : Nat → Nat} {ax am : Nat → ClassId} {H : Heap} (hK : va_K (dC, dI) vwCl (tX ax ++ tM am) s) (hP : va_P (dC, dI) vwCl (wX gx ax ++ wM gm am) H) : ∀ q, (toW (rho gx gm) (clA ax) ph0)[125]? = some q → va_at (dC, dI) vwCl q H := fun q hq => by
  cases (toW_at sh_125).symm.trans hq
  have z : H[gm 50]? = some (vp_cell (am 50) (43200, .inl (fun _ => 0))) := hP 125 _ rfl
  rw [show am 50 = ax 3 from ra_byte (hK.2 111 _ rfl).2 (hK.2 0 _ rfl).2] at z
  exact z
set_option maxRecDepth 100000 in
theorem pb_126 {dC : Nat → ClassId} {dI : Nat → Nat → Nat} {s : State} {gx gm : Nat → Nat} {ax am : Nat → ClassId} {H : Heap} (hK : va_K (dC, dI) vwCl (tX ax ++ tM am) s) (hP : va_P (dC, dI) vwCl (wX gx ax ++ wM gm am) H) : ∀ q, (toW (rho gx gm) (clA ax) ph0)[126]? = some q → va_at (dC, dI) vwCl q H := fun q hq => by
  cases (toW_at sh_126).symm.trans hq
  have z : H[gm 53]? = some (vp_cell (am 53) (64, .inl (fun _ => 0))) := hP 126 _ rfl
  rw [show am 53 = ax 5 from ra_int (hK.2 112 _ rfl).2 (hK.2 1 _ rfl).2] at z
  exact z
set_option maxRecDepth 100000 in
theorem pb_127 {dC : Nat → ClassId} {dI : Nat → Nat → Nat} {s : State} {gx gm : Nat → Nat} {ax am : Nat → ClassId} {H : Heap} (hK : va_K (dC, dI) vwCl (tX ax ++ tM am) s) (hP : va_P (dC, dI) vwCl (wX gx ax ++ wM gm am) H) : ∀ q, (toW (rho gx gm) (clA ax) ph0)[127]? = some q → va_at (dC, dI) vwCl q H := fun q hq => by
  cases (toW_at sh_127).symm.trans hq
  have z : H[gm 57]? = some (vp_cell (am 57) (4, .inl nF)) := hP 127 _ rfl
  rw [show am 57 = ax 5 from ra_int (hK.2 113 _ rfl).2 (hK.2 1 _ rfl).2] at z
  exact z
set_option maxRecDepth 100000 in
theorem pb_128 {dC : Nat → ClassId} {dI : Nat → Nat → Nat} {s : State} {gx gm : Nat → Nat} {ax am : Nat → ClassId} {H : Heap} (hK : va_K (dC, dI) vwCl (tX ax ++ tM am) s) (hP : va_P (dC, dI) vwCl (wX gx ax ++ wM gm am) H) : ∀ q, (toW (rho gx gm) (clA ax) ph0)[128]? = some q → va_at (dC, dI) vwCl q H := fun q hq => by
  cases (toW_at sh_128).symm.trans hq
  have z : H[gm 58]? = some (vp_cell (am 58) (4, .inl (fun _ => 0))) := hP 128 _ rfl
  rw [show am 58 = ax 5 from ra_int (hK.2 114 _ rfl).2 (hK.2 1 _ rfl).2] at z
  exact z
set_option maxRecDepth 100000 in
theorem pb_129 {dC : Nat → ClassId} {dI : Nat → Nat → Nat} {s : State} {gx gm : Nat → Nat} {ax am : Nat → ClassId} {H : Heap} (hK : va_K (dC, dI) vwCl (tX ax ++ tM am) s) (hP : va_P (dC, dI) vwCl (wX gx ax ++ wM gm am) H) : ∀ q, (toW (rho gx gm) (clA ax) ph0)[129]? = some q → va_at (dC, dI) vwCl q H := fun q hq => by
  cases (toW_at sh_129).symm.trans hq
  have z : H[gm 59]? = some (vp_cell (am 59) (240, .inr (.inl (fun _ => 0)))) := hP 129 _ rfl
  rw [show am 59 = ax 9 from ra_long (hK.2 115 _ rfl).2 (hK.2 5 _ rfl).2] at z
  exact z
set_option maxRecDepth 100000 in
theorem pb_130 {dC : Nat → ClassId} {dI : Nat → Nat → Nat} {s : State} {gx gm : Nat → Nat} {ax am : Nat → ClassId} {H : Heap} (hK : va_K (dC, dI) vwCl (tX ax ++ tM am) s) (hP : va_P (dC, dI) vwCl (wX gx ax ++ wM gm am) H) : ∀ q, (toW (rho gx gm) (clA ax) ph0)[130]? = some q → va_at (dC, dI) vwCl q H := fun q hq => by
  cases (toW_at sh_130).symm.trans hq
  have z : H[gm 60]? = some (vp_cell (am 60) (60, .inr (.inl (fun _ => 0)))) := hP 130 _ rfl
  rw [show am 60 = ax 9 from ra_long (hK.2 116 _ rfl).2 (hK.2 5 _ rfl).2] at z
  exact z
set_option maxRecDepth 100000 in
theorem fb_0 {gx gm : Nat → Nat} {ax am : Nat → ClassId} : ∀ q, (toW (rho gx gm) (clA ax) ph0)[0]? = some q → ∃ q', (wX gx ax ++ wM gm am)[0]? = some q' ∧ q'.1 = q.1 := fun q hq => by
  rw [toW_at sh_0] at hq
  rw [← Option.some.inj hq]
  exact ⟨_, rfl, (rfl : (gx 0) = rho gx gm 0)⟩
set_option maxRecDepth 100000 in
theorem fb_1 {gx gm : Nat → Nat} {ax am : Nat → ClassId} : ∀ q, (toW (rho gx gm) (clA ax) ph0)[1]? = some q → ∃ q', (wX gx ax ++ wM gm am)[1]? = some q' ∧ q'.1 = q.1 := fun q hq => by
  rw [toW_at sh_1] at hq
  rw [← Option.some.inj hq]
  exact ⟨_, rfl, (rfl : (gx 1) = rho gx gm 1)⟩
set_option maxRecDepth 100000 in
theorem fb_2 {gx gm : Nat → Nat} {ax am : Nat → ClassId} : ∀ q, (toW (rho gx gm) (clA ax) ph0)[2]? = some q → ∃ q', (wX gx ax ++ wM gm am)[2]? = some q' ∧ q'.1 = q.1 := fun q hq => by
  rw [toW_at sh_2] at hq
  rw [← Option.some.inj hq]
  exact ⟨_, rfl, (rfl : (gx 2) = rho gx gm 2)⟩
set_option maxRecDepth 100000 in
theorem fb_3 {gx gm : Nat → Nat} {ax am : Nat → ClassId} : ∀ q, (toW (rho gx gm) (clA ax) ph0)[3]? = some q → ∃ q', (wX gx ax ++ wM gm am)[3]? = some q' ∧ q'.1 = q.1 := fun q hq => by
  rw [toW_at sh_3] at hq
  rw [← Option.some.inj hq]
  exact ⟨_, rfl, (rfl : (gx 3) = rho gx gm 3)⟩
set_option maxRecDepth 100000 in
theorem fb_4 {gx gm : Nat → Nat} {ax am : Nat → ClassId} : ∀ q, (toW (rho gx gm) (clA ax) ph0)[4]? = some q → ∃ q', (wX gx ax ++ wM gm am)[4]? = some q' ∧ q'.1 = q.1 := fun q hq => by
  rw [toW_at sh_4] at hq
  rw [← Option.some.inj hq]
  exact ⟨_, rfl, (rfl : (gx 4) = rho gx gm 4)⟩
set_option maxRecDepth 100000 in
theorem fb_5 {gx gm : Nat → Nat} {ax am : Nat → ClassId} : ∀ q, (toW (rho gx gm) (clA ax) ph0)[5]? = some q → ∃ q', (wX gx ax ++ wM gm am)[5]? = some q' ∧ q'.1 = q.1 := fun q hq => by
  rw [toW_at sh_5] at hq
  rw [← Option.some.inj hq]
  exact ⟨_, rfl, (rfl : (gx 5) = rho gx gm 5)⟩
set_option maxRecDepth 100000 in
theorem fb_6 {gx gm : Nat → Nat} {ax am : Nat → ClassId} : ∀ q, (toW (rho gx gm) (clA ax) ph0)[6]? = some q → ∃ q', (wX gx ax ++ wM gm am)[6]? = some q' ∧ q'.1 = q.1 := fun q hq => by
  rw [toW_at sh_6] at hq
  rw [← Option.some.inj hq]
  exact ⟨_, rfl, (rfl : (gx 6) = rho gx gm 6)⟩
set_option maxRecDepth 100000 in
theorem fb_7 {gx gm : Nat → Nat} {ax am : Nat → ClassId} : ∀ q, (toW (rho gx gm) (clA ax) ph0)[7]? = some q → ∃ q', (wX gx ax ++ wM gm am)[7]? = some q' ∧ q'.1 = q.1 := fun q hq => by
  rw [toW_at sh_7] at hq
  rw [← Option.some.inj hq]
  exact ⟨_, rfl, (rfl : (gx 7) = rho gx gm 7)⟩
set_option maxRecDepth 100000 in
theorem fb_8 {gx gm : Nat → Nat} {ax am : Nat → ClassId} : ∀ q, (toW (rho gx gm) (clA ax) ph0)[8]? = some q → ∃ q', (wX gx ax ++ wM gm am)[8]? = some q' ∧ q'.1 = q.1 := fun q hq => by
  rw [toW_at sh_8] at hq
  rw [← Option.some.inj hq]
  exact ⟨_, rfl, (rfl : (gx 8) = rho gx gm 8)⟩
set_option maxRecDepth 100000 in
theorem fb_9 {gx gm : Nat → Nat} {ax am : Nat → ClassId} : ∀ q, (toW (rho gx gm) (clA ax) ph0)[9]? = some q → ∃ q', (wX gx ax ++ wM gm am)[9]? = some q' ∧ q'.1 = q.1 := fun q hq => by
  rw [toW_at sh_9] at hq
  rw [← Option.some.inj hq]
  exact ⟨_, rfl, (rfl : (gx 9) = rho gx gm 9)⟩
set_option maxRecDepth 100000 in
theorem fb_10 {gx gm : Nat → Nat} {ax am : Nat → ClassId} : ∀ q, (toW (rho gx gm) (clA ax) ph0)[10]? = some q → ∃ q', (wX gx ax ++ wM gm am)[10]? = some q' ∧ q'.1 = q.1 := fun q hq => by
  rw [toW_at sh_10] at hq
  rw [← Option.some.inj hq]
  exact ⟨_, rfl, (rfl : (gx 10) = rho gx gm 10)⟩
set_option maxRecDepth 100000 in
theorem fb_11 {gx gm : Nat → Nat} {ax am : Nat → ClassId} : ∀ q, (toW (rho gx gm) (clA ax) ph0)[11]? = some q → ∃ q', (wX gx ax ++ wM gm am)[11]? = some q' ∧ q'.1 = q.1 := fun q hq => by
  rw [toW_at sh_11] at hq
  rw [← Option.some.inj hq]
  exact ⟨_, rfl, (rfl : (gx 11) = rho gx gm 11)⟩
set_option maxRecDepth 100000 in
theorem fb_12 {gx gm : Nat → Nat} {ax am : Nat → ClassId} : ∀ q, (toW (rho gx gm) (clA ax) ph0)[12]? = some q → ∃ q', (wX gx ax ++ wM gm am)[12]? = some q' ∧ q'.1 = q.1 := fun q hq => by
  rw [toW_at sh_12] at hq
  rw [← Option.some.inj hq]
  exact ⟨_, rfl, (rfl : (gx 12) = rho gx gm 12)⟩
set_option maxRecDepth 100000 in
theorem fb_13 {gx gm : Nat → Nat} {ax am : Nat → ClassId} : ∀ q, (toW (rho gx gm) (clA ax) ph0)[13]? = some q → ∃ q', (wX gx ax ++ wM gm am)[13]? = some q' ∧ q'.1 = q.1 := fun q hq => by
  rw [toW_at sh_13] at hq
  rw [← Option.some.inj hq]
  exact ⟨_, rfl, (rfl : (gx 13) = rho gx gm 13)⟩
set_option maxRecDepth 100000 in
theorem fb_14 {gx gm : Nat → Nat} {ax am : Nat → ClassId} : ∀ q, (toW (rho gx gm) (clA ax) ph0)[14]? = some q → ∃ q', (wX gx ax ++ wM gm am)[14]? = some q' ∧ q'.1 = q.1 := fun q hq => by
  rw [toW_at sh_14] at hq
  rw [← Option.some.inj hq]
  exact ⟨_, rfl, (rfl : (gx 14) = rho gx gm 14)⟩
set_option maxRecDepth 100000 in
theorem fb_15 {gx gm : Nat → Nat} {ax am : Nat → ClassId} : ∀ q, (toW (rho gx gm) (clA ax) ph0)[15]? = some q → ∃ q', (wX gx ax ++ wM gm am)[15]? = some q' ∧ q'.1 = q.1 := fun q hq => by
  rw [toW_at sh_15] at hq
  rw [← Option.some.inj hq]
  exact ⟨_, rfl, (rfl : (gx 15) = rho gx gm 15)⟩
set_option maxRecDepth 100000 in
theorem fb_16 {gx gm : Nat → Nat} {ax am : Nat → ClassId} : ∀ q, (toW (rho gx gm) (clA ax) ph0)[16]? = some q → ∃ q', (wX gx ax ++ wM gm am)[16]? = some q' ∧ q'.1 = q.1 := fun q hq => by
  rw [toW_at sh_16] at hq
  rw [← Option.some.inj hq]
  exact ⟨_, rfl, (rfl : (gx 16) = rho gx gm 16)⟩
set_option maxRecDepth 100000 in
theorem fb_17 {gx gm : Nat → Nat} {ax am : Nat → ClassId} : ∀ q, (toW (rho gx gm) (clA ax) ph0)[17]? = some q → ∃ q', (wX gx ax ++ wM gm am)[17]? = some q' ∧ q'.1 = q.1 := fun q hq => by
  rw [toW_at sh_17] at hq
  rw [← Option.some.inj hq]
  exact ⟨_, rfl, (rfl : (gx 17) = rho gx gm 17)⟩
set_option maxRecDepth 100000 in
theorem fb_18 {gx gm : Nat → Nat} {ax am : Nat → ClassId} : ∀ q, (toW (rho gx gm) (clA ax) ph0)[18]? = some q → ∃ q', (wX gx ax ++ wM gm am)[18]? = some q' ∧ q'.1 = q.1 := fun q hq => by
  rw [toW_at sh_18] at hq
  rw [← Option.some.inj hq]
  exact ⟨_, rfl, (rfl : (gx 18) = rho gx gm 18)⟩
set_option maxRecDepth 100000 in
theorem fb_19 {gx gm : Nat → Nat} {ax am : Nat → ClassId} : ∀ q, (toW (rho gx gm) (clA ax) ph0)[19]? = some q → ∃ q', (wX gx ax ++ wM gm am)[19]? = some q' ∧ q'.1 = q.1 := fun q hq => by
  rw [toW_at sh_19] at hq
  rw [← Option.some.inj hq]
  exact ⟨_, rfl, (rfl : (gx 19) = rho gx gm 19)⟩
set_option maxRecDepth 100000 in
theorem fb_20 {gx gm : Nat → Nat} {ax am : Nat → ClassId} : ∀ q, (toW (rho gx gm) (clA ax) ph0)[20]? = some q → ∃ q', (wX gx ax ++ wM gm am)[20]? = some q' ∧ q'.1 = q.1 := fun q hq => by
  rw [toW_at sh_20] at hq
  rw [← Option.some.inj hq]
  exact ⟨_, rfl, (rfl : (gx 20) = rho gx gm 20)⟩
set_option maxRecDepth 100000 in
theorem fb_21 {gx gm : Nat → Nat} {ax am : Nat → ClassId} : ∀ q, (toW (rho gx gm) (clA ax) ph0)[21]? = some q → ∃ q', (wX gx ax ++ wM gm am)[21]? = some q' ∧ q'.1 = q.1 := fun q hq => by
  rw [toW_at sh_21] at hq
  rw [← Option.some.inj hq]
  exact ⟨_, rfl, (rfl : (gx 21) = rho gx gm 21)⟩
set_option maxRecDepth 100000 in
theorem fb_22 {gx gm : Nat → Nat} {ax am : Nat → ClassId} : ∀ q, (toW (rho gx gm) (clA ax) ph0)[22]? = some q → ∃ q', (wX gx ax ++ wM gm am)[22]? = some q' ∧ q'.1 = q.1 := fun q hq => by
  rw [toW_at sh_22] at hq
  rw [← Option.some.inj hq]
  exact ⟨_, rfl, (rfl : (gx 22) = rho gx gm 22)⟩
set_option maxRecDepth 100000 in
theorem fb_23 {gx gm : Nat → Nat} {ax am : Nat → ClassId} : ∀ q, (toW (rho gx gm) (clA ax) ph0)[23]? = some q → ∃ q', (wX gx ax ++ wM gm am)[23]? = some q' ∧ q'.1 = q.1 := fun q hq => by
  rw [toW_at sh_23] at hq
  rw [← Option.some.inj hq]
  exact ⟨_, rfl, (rfl : (gx 23) = rho gx gm 23)⟩
set_option maxRecDepth 100000 in
theorem fb_24 {gx gm : Nat → Nat} {ax am : Nat → ClassId} : ∀ q, (toW (rho gx gm) (clA ax) ph0)[24]? = some q → ∃ q', (wX gx ax ++ wM gm am)[24]? = some q' ∧ q'.1 = q.1 := fun q hq => by
  rw [toW_at sh_24] at hq
  rw [← Option.some.inj hq]
  exact ⟨_, rfl, (rfl : (gx 24) = rho gx gm 24)⟩
set_option maxRecDepth 100000 in
theorem fb_25 {gx gm : Nat → Nat} {ax am : Nat → ClassId} : ∀ q, (toW (rho gx gm) (clA ax) ph0)[25]? = some q → ∃ q', (wX gx ax ++ wM gm am)[25]? = some q' ∧ q'.1 = q.1 := fun q hq => by
  rw [toW_at sh_25] at hq
  rw [← Option.some.inj hq]
  exact ⟨_, rfl, (rfl : (gx 25) = rho gx gm 25)⟩
set_option maxRecDepth 100000 in
theorem fb_26 {gx gm : Nat → Nat} {ax am : Nat → ClassId} : ∀ q, (toW (rho gx gm) (clA ax) ph0)[26]? = some q → ∃ q', (wX gx ax ++ wM gm am)[26]? = some q' ∧ q'.1 = q.1 := fun q hq => by
  rw [toW_at sh_26] at hq
  rw [← Option.some.inj hq]
  exact ⟨_, rfl, (rfl : (gx 26) = rho gx gm 26)⟩
set_option maxRecDepth 100000 in
theorem fb_27 {gx gm : Nat → Nat} {ax am : Nat → ClassId} : ∀ q, (toW (rho gx gm) (clA ax) ph0)[27]? = some q → ∃ q', (wX gx ax ++ wM gm am)[27]? = some q' ∧ q'.1 = q.1 := fun q hq => by
  rw [toW_at sh_27] at hq
  rw [← Option.some.inj hq]
  exact ⟨_, rfl, (rfl : (gx 27) = rho gx gm 27)⟩
set_option maxRecDepth 100000 in
theorem fb_28 {gx gm : Nat → Nat} {ax am : Nat → ClassId} : ∀ q, (toW (rho gx gm) (clA ax) ph0)[28]? = some q → ∃ q', (wX gx ax ++ wM gm am)[28]? = some q' ∧ q'.1 = q.1 := fun q hq => by
  rw [toW_at sh_28] at hq
  rw [← Option.some.inj hq]
  exact ⟨_, rfl, (rfl : (gx 28) = rho gx gm 28)⟩
set_option maxRecDepth 100000 in
theorem fb_29 {gx gm : Nat → Nat} {ax am : Nat → ClassId} : ∀ q, (toW (rho gx gm) (clA ax) ph0)[29]? = some q → ∃ q', (wX gx ax ++ wM gm am)[29]? = some q' ∧ q'.1 = q.1 := fun q hq => by
  rw [toW_at sh_29] at hq
  rw [← Option.some.inj hq]
  exact ⟨_, rfl, (rfl : (gx 29) = rho gx gm 29)⟩
set_option maxRecDepth 100000 in
theorem fb_30 {gx gm : Nat → Nat} {ax am : Nat → ClassId} : ∀ q, (toW (rho gx gm) (clA ax) ph0)[30]? = some q → ∃ q', (wX gx ax ++ wM gm am)[30]? = some q' ∧ q'.1 = q.1 := fun q hq => by
  rw [toW_at sh_30] at hq
  rw [← Option.some.inj hq]
  exact ⟨_, rfl, (rfl : (gx 30) = rho gx gm 30)⟩
set_option maxRecDepth 100000 in
theorem fb_31 {gx gm : Nat → Nat} {ax am : Nat → ClassId} : ∀ q, (toW (rho gx gm) (clA ax) ph0)[31]? = some q → ∃ q', (wX gx ax ++ wM gm am)[31]? = some q' ∧ q'.1 = q.1 := fun q hq => by
  rw [toW_at sh_31] at hq
  rw [← Option.some.inj hq]
  exact ⟨_, rfl, (rfl : (gx 31) = rho gx gm 31)⟩
set_option maxRecDepth 100000 in
theorem fb_32 {gx gm : Nat → Nat} {ax am : Nat → ClassId} : ∀ q, (toW (rho gx gm) (clA ax) ph0)[32]? = some q → ∃ q', (wX gx ax ++ wM gm am)[32]? = some q' ∧ q'.1 = q.1 := fun q hq => by
  rw [toW_at sh_32] at hq
  rw [← Option.some.inj hq]
  exact ⟨_, rfl, (rfl : (gx 32) = rho gx gm 32)⟩
set_option maxRecDepth 100000 in
theorem fb_33 {gx gm : Nat → Nat} {ax am : Nat → ClassId} : ∀ q, (toW (rho gx gm) (clA ax) ph0)[33]? = some q → ∃ q', (wX gx ax ++ wM gm am)[33]? = some q' ∧ q'.1 = q.1 := fun q hq => by
  rw [toW_at sh_33] at hq
  rw [← Option.some.inj hq]
  exact ⟨_, rfl, (rfl : (gx 33) = rho gx gm 33)⟩
set_option maxRecDepth 100000 in
theorem fb_34 {gx gm : Nat → Nat} {ax am : Nat → ClassId} : ∀ q, (toW (rho gx gm) (clA ax) ph0)[34]? = some q → ∃ q', (wX gx ax ++ wM gm am)[34]? = some q' ∧ q'.1 = q.1 := fun q hq => by
  rw [toW_at sh_34] at hq
  rw [← Option.some.inj hq]
  exact ⟨_, rfl, (rfl : (gx 34) = rho gx gm 34)⟩
set_option maxRecDepth 100000 in
theorem fb_35 {gx gm : Nat → Nat} {ax am : Nat → ClassId} : ∀ q, (toW (rho gx gm) (clA ax) ph0)[35]? = some q → ∃ q', (wX gx ax ++ wM gm am)[35]? = some q' ∧ q'.1 = q.1 := fun q hq => by
  rw [toW_at sh_35] at hq
  rw [← Option.some.inj hq]
  exact ⟨_, rfl, (rfl : (gx 35) = rho gx gm 35)⟩
set_option maxRecDepth 100000 in
theorem fb_36 {gx gm : Nat → Nat} {ax am : Nat → ClassId} : ∀ q, (toW (rho gx gm) (clA ax) ph0)[36]? = some q → ∃ q', (wX gx ax ++ wM gm am)[36]? = some q' ∧ q'.1 = q.1 := fun q hq => by
  rw [toW_at sh_36] at hq
  rw [← Option.some.inj hq]
  exact ⟨_, rfl, (rfl : (gx 36) = rho gx gm 36)⟩
set_option maxRecDepth 100000 in
theorem fb_37 {gx gm : Nat → Nat} {ax am : Nat → ClassId} : ∀ q, (toW (rho gx gm) (clA ax) ph0)[37]? = some q → ∃ q', (wX gx ax ++ wM gm am)[37]? = some q' ∧ q'.1 = q.1 := fun q hq => by
  rw [toW_at sh_37] at hq
  rw [← Option.some.inj hq]
  exact ⟨_, rfl, (rfl : (gx 37) = rho gx gm 37)⟩
set_option maxRecDepth 100000 in
theorem fb_38 {gx gm : Nat → Nat} {ax am : Nat → ClassId} : ∀ q, (toW (rho gx gm) (clA ax) ph0)[38]? = some q → ∃ q', (wX gx ax ++ wM gm am)[38]? = some q' ∧ q'.1 = q.1 := fun q hq => by
  rw [toW_at sh_38] at hq
  rw [← Option.some.inj hq]
  exact ⟨_, rfl, (rfl : (gx 38) = rho gx gm 38)⟩
set_option maxRecDepth 100000 in
theorem fb_39 {gx gm : Nat → Nat} {ax am : Nat → ClassId} : ∀ q, (toW (rho gx gm) (clA ax) ph0)[39]? = some q → ∃ q', (wX gx ax ++ wM gm am)[39]? = some q' ∧ q'.1 = q.1 := fun q hq => by
  rw [toW_at sh_39] at hq
  rw [← Option.some.inj hq]
  exact ⟨_, rfl, (rfl : (gx 39) = rho gx gm 39)⟩
set_option maxRecDepth 100000 in
theorem fb_40 {gx gm : Nat → Nat} {ax am : Nat → ClassId} : ∀ q, (toW (rho gx gm) (clA ax) ph0)[40]? = some q → ∃ q', (wX gx ax ++ wM gm am)[40]? = some q' ∧ q'.1 = q.1 := fun q hq => by
  rw [toW_at sh_40] at hq
  rw [← Option.some.inj hq]
  exact ⟨_, rfl, (rfl : (gx 40) = rho gx gm 40)⟩
set_option maxRecDepth 100000 in
theorem fb_41 {gx gm : Nat → Nat} {ax am : Nat → ClassId} : ∀ q, (toW (rho gx gm) (clA ax) ph0)[41]? = some q → ∃ q', (wX gx ax ++ wM gm am)[41]? = some q' ∧ q'.1 = q.1 := fun q hq => by
  rw [toW_at sh_41] at hq
  rw [← Option.some.inj hq]
  exact ⟨_, rfl, (rfl : (gx 41) = rho gx gm 41)⟩
set_option maxRecDepth 100000 in
theorem fb_42 {gx gm : Nat → Nat} {ax am : Nat → ClassId} : ∀ q, (toW (rho gx gm) (clA ax) ph0)[42]? = some q → ∃ q', (wX gx ax ++ wM gm am)[42]? = some q' ∧ q'.1 = q.1 := fun q hq => by
  rw [toW_at sh_42] at hq
  rw [← Option.some.inj hq]
  exact ⟨_, rfl, (rfl : (gx 42) = rho gx gm 42)⟩
set_option maxRecDepth 100000 in
theorem fb_43 {gx gm : Nat → Nat} {ax am : Nat → ClassId} : ∀ q, (toW (rho gx gm) (clA ax) ph0)[43]? = some q → ∃ q', (wX gx ax ++ wM gm am)[43]? = some q' ∧ q'.1 = q.1 := fun q hq => by
  rw [toW_at sh_43] at hq
  rw [← Option.some.inj hq]
  exact ⟨_, rfl, (rfl : (gx 43) = rho gx gm 43)⟩
set_option maxRecDepth 100000 in
theorem fb_44 {gx gm : Nat → Nat} {ax am : Nat → ClassId} : ∀ q, (toW (rho gx gm) (clA ax) ph0)[44]? = some q → ∃ q', (wX gx ax ++ wM gm am)[44]? = some q' ∧ q'.1 = q.1 := fun q hq => by
  rw [toW_at sh_44] at hq
  rw [← Option.some.inj hq]
  exact ⟨_, rfl, (rfl : (gx 44) = rho gx gm 44)⟩
set_option maxRecDepth 100000 in
theorem fb_45 {gx gm : Nat → Nat} {ax am : Nat → ClassId} : ∀ q, (toW (rho gx gm) (clA ax) ph0)[45]? = some q → ∃ q', (wX gx ax ++ wM gm am)[45]? = some q' ∧ q'.1 = q.1 := fun q hq => by
  rw [toW_at sh_45] at hq
  rw [← Option.some.inj hq]
  exact ⟨_, rfl, (rfl : (gx 45) = rho gx gm 45)⟩
set_option maxRecDepth 100000 in
theorem fb_46 {gx gm : Nat → Nat} {ax am : Nat → ClassId} : ∀ q, (toW (rho gx gm) (clA ax) ph0)[46]? = some q → ∃ q', (wX gx ax ++ wM gm am)[46]? = some q' ∧ q'.1 = q.1 := fun q hq => by
  rw [toW_at sh_46] at hq
  rw [← Option.some.inj hq]
  exact ⟨_, rfl, (rfl : (gx 46) = rho gx gm 46)⟩
set_option maxRecDepth 100000 in
theorem fb_47 {gx gm : Nat → Nat} {ax am : Nat → ClassId} : ∀ q, (toW (rho gx gm) (clA ax) ph0)[47]? = some q → ∃ q', (wX gx ax ++ wM gm am)[47]? = some q' ∧ q'.1 = q.1 := fun q hq => by
  rw [toW_at sh_47] at hq
  rw [← Option.some.inj hq]
  exact ⟨_, rfl, (rfl : (gx 47) = rho gx gm 47)⟩
set_option maxRecDepth 100000 in
theorem fb_48 {gx gm : Nat → Nat} {ax am : Nat → ClassId} : ∀ q, (toW (rho gx gm) (clA ax) ph0)[48]? = some q → ∃ q', (wX gx ax ++ wM gm am)[48]? = some q' ∧ q'.1 = q.1 := fun q hq => by
  rw [toW_at sh_48] at hq
  rw [← Option.some.inj hq]
  exact ⟨_, rfl, (rfl : (gx 48) = rho gx gm 48)⟩
set_option maxRecDepth 100000 in
theorem fb_49 {gx gm : Nat → Nat} {ax am : Nat → ClassId} : ∀ q, (toW (rho gx gm) (clA ax) ph0)[49]? = some q → ∃ q', (wX gx ax ++ wM gm am)[49]? = some q' ∧ q'.1 = q.1 := fun q hq => by
  rw [toW_at sh_49] at hq
  rw [← Option.some.inj hq]
  exact ⟨_, rfl, (rfl : (gx 49) = rho gx gm 49)⟩
set_option maxRecDepth 100000 in
theorem fb_50 {gx gm : Nat → Nat} {ax am : Nat → ClassId} : ∀ q, (toW (rho gx gm) (clA ax) ph0)[50]? = some q → ∃ q', (wX gx ax ++ wM gm am)[50]? = some q' ∧ q'.1 = q.1 := fun q hq => by
  rw [toW_at sh_50] at hq
  rw [← Option.some.inj hq]
  exact ⟨_, rfl, (rfl : (gx 50) = rho gx gm 50)⟩
set_option maxRecDepth 100000 in
theorem fb_51 {gx gm : Nat → Nat} {ax am : Nat → ClassId} : ∀ q, (toW (rho gx gm) (clA ax) ph0)[51]? = some q → ∃ q', (wX gx ax ++ wM gm am)[51]? = some q' ∧ q'.1 = q.1 := fun q hq => by
  rw [toW_at sh_51] at hq
  rw [← Option.some.inj hq]
  exact ⟨_, rfl, (rfl : (gx 51) = rho gx gm 51)⟩
set_option maxRecDepth 100000 in
theorem fb_52 {gx gm : Nat → Nat} {ax am : Nat → ClassId} : ∀ q, (toW (rho gx gm) (clA ax) ph0)[52]? = some q → ∃ q', (wX gx ax ++ wM gm am)[52]? = some q' ∧ q'.1 = q.1 := fun q hq => by
  rw [toW_at sh_52] at hq
  rw [← Option.some.inj hq]
  exact ⟨_, rfl, (rfl : (gx 52) = rho gx gm 52)⟩
set_option maxRecDepth 100000 in
theorem fb_53 {gx gm : Nat → Nat} {ax am : Nat → ClassId} : ∀ q, (toW (rho gx gm) (clA ax) ph0)[53]? = some q → ∃ q', (wX gx ax ++ wM gm am)[53]? = some q' ∧ q'.1 = q.1 := fun q hq => by
  rw [toW_at sh_53] at hq
  rw [← Option.some.inj hq]
  exact ⟨_, rfl, (rfl : (gx 53) = rho gx gm 53)⟩
set_option maxRecDepth 100000 in
theorem fb_54 {gx gm : Nat → Nat} {ax am : Nat → ClassId} : ∀ q, (toW (rho gx gm) (clA ax) ph0)[54]? = some q → ∃ q', (wX gx ax ++ wM gm am)[54]? = some q' ∧ q'.1 = q.1 := fun q hq => by
  rw [toW_at sh_54] at hq
  rw [← Option.some.inj hq]
  exact ⟨_, rfl, (rfl : (gx 54) = rho gx gm 54)⟩
set_option maxRecDepth 100000 in
theorem fb_55 {gx gm : Nat → Nat} {ax am : Nat → ClassId} : ∀ q, (toW (rho gx gm) (clA ax) ph0)[55]? = some q → ∃ q', (wX gx ax ++ wM gm am)[55]? = some q' ∧ q'.1 = q.1 := fun q hq => by
  rw [toW_at sh_55] at hq
  rw [← Option.some.inj hq]
  exact ⟨_, rfl, (rfl : (gx 55) = rho gx gm 55)⟩
set_option maxRecDepth 100000 in
theorem fb_56 {gx gm : Nat → Nat} {ax am : Nat → ClassId} : ∀ q, (toW (rho gx gm) (clA ax) ph0)[56]? = some q → ∃ q', (wX gx ax ++ wM gm am)[56]? = some q' ∧ q'.1 = q.1 := fun q hq => by
  rw [toW_at sh_56] at hq
  rw [← Option.some.inj hq]
  exact ⟨_, rfl, (rfl : (gx 56) = rho gx gm 56)⟩
set_option maxRecDepth 100000 in
theorem fb_57 {gx gm : Nat → Nat} {ax am : Nat → ClassId} : ∀ q, (toW (rho gx gm) (clA ax) ph0)[57]? = some q → ∃ q', (wX gx ax ++ wM gm am)[57]? = some q' ∧ q'.1 = q.1 := fun q hq => by
  rw [toW_at sh_57] at hq
  rw [← Option.some.inj hq]
  exact ⟨_, rfl, (rfl : (gx 57) = rho gx gm 57)⟩
set_option maxRecDepth 100000 in
theorem fb_58 {gx gm : Nat → Nat} {ax am : Nat → ClassId} : ∀ q, (toW (rho gx gm) (clA ax) ph0)[58]? = some q → ∃ q', (wX gx ax ++ wM gm am)[58]? = some q' ∧ q'.1 = q.1 := fun q hq => by
  rw [toW_at sh_58] at hq
  rw [← Option.some.inj hq]
  exact ⟨_, rfl, (rfl : (gx 58) = rho gx gm 58)⟩
set_option maxRecDepth 100000 in
theorem fb_59 {gx gm : Nat → Nat} {ax am : Nat → ClassId} : ∀ q, (toW (rho gx gm) (clA ax) ph0)[59]? = some q → ∃ q', (wX gx ax ++ wM gm am)[59]? = some q' ∧ q'.1 = q.1 := fun q hq => by
  rw [toW_at sh_59] at hq
  rw [← Option.some.inj hq]
  exact ⟨_, rfl, (rfl : (gx 59) = rho gx gm 59)⟩
set_option maxRecDepth 100000 in
theorem fb_60 {gx gm : Nat → Nat} {ax am : Nat → ClassId} : ∀ q, (toW (rho gx gm) (clA ax) ph0)[60]? = some q → ∃ q', (wX gx ax ++ wM gm am)[60]? = some q' ∧ q'.1 = q.1 := fun q hq => by
  rw [toW_at sh_60] at hq
  rw [← Option.some.inj hq]
  exact ⟨_, rfl, (rfl : (gx 60) = rho gx gm 60)⟩
set_option maxRecDepth 100000 in
theorem fb_61 {gx gm : Nat → Nat} {ax am : Nat → ClassId} : ∀ q, (toW (rho gx gm) (clA ax) ph0)[61]? = some q → ∃ q', (wX gx ax ++ wM gm am)[61]? = some q' ∧ q'.1 = q.1 := fun q hq => by
  rw [toW_at sh_61] at hq
  rw [← Option.some.inj hq]
  exact ⟨_, rfl, (rfl : (gx 61) = rho gx gm 61)⟩
set_option maxRecDepth 100000 in
theorem fb_62 {gx gm : Nat → Nat} {ax am : Nat → ClassId} : ∀ q, (toW (rho gx gm) (clA ax) ph0)[62]? = some q → ∃ q', (wX gx ax ++ wM gm am)[62]? = some q' ∧ q'.1 = q.1 := fun q hq => by
  rw [toW_at sh_62] at hq
  rw [← Option.some.inj hq]
  exact ⟨_, rfl, (rfl : (gx 62) = rho gx gm 62)⟩
set_option maxRecDepth 100000 in
theorem fb_63 {gx gm : Nat → Nat} {ax am : Nat → ClassId} : ∀ q, (toW (rho gx gm) (clA ax) ph0)[63]? = some q → ∃ q', (wX gx ax ++ wM gm am)[63]? = some q' ∧ q'.1 = q.1 := fun q hq => by
  rw [toW_at sh_63] at hq
  rw [← Option.some.inj hq]
  exact ⟨_, rfl, (rfl : (gx 63) = rho gx gm 63)⟩
set_option maxRecDepth 100000 in
theorem fb_64 {gx gm : Nat → Nat} {ax am : Nat → ClassId} : ∀ q, (toW (rho gx gm) (clA ax) ph0)[64]? = some q → ∃ q', (wX gx ax ++ wM gm am)[64]? = some q' ∧ q'.1 = q.1 := fun q hq => by
  rw [toW_at sh_64] at hq
  rw [← Option.some.inj hq]
  exact ⟨_, rfl, (rfl : (gx 64) = rho gx gm 64)⟩
set_option maxRecDepth 100000 in
theorem fb_65 {gx gm : Nat → Nat} {ax am : Nat → ClassId} : ∀ q, (toW (rho gx gm) (clA ax) ph0)[65]? = some q → ∃ q', (wX gx ax ++ wM gm am)[65]? = some q' ∧ q'.1 = q.1 := fun q hq => by
  rw [toW_at sh_65] at hq
  rw [← Option.some.inj hq]
  exact ⟨_, rfl, (rfl : (gx 65) = rho gx gm 65)⟩
set_option maxRecDepth 100000 in
theorem fb_66 {gx gm : Nat → Nat} {ax am : Nat → ClassId} : ∀ q, (toW (rho gx gm) (clA ax) ph0)[66]? = some q → ∃ q', (wX gx ax ++ wM gm am)[66]? = some q' ∧ q'.1 = q.1 := fun q hq => by
  rw [toW_at sh_66] at hq
  rw [← Option.some.inj hq]
  exact ⟨_, rfl, (rfl : (gx 66) = rho gx gm 66)⟩
set_option maxRecDepth 100000 in
theorem fb_67 {gx gm : Nat → Nat} {ax am : Nat → ClassId} : ∀ q, (toW (rho gx gm) (clA ax) ph0)[67]? = some q → ∃ q', (wX gx ax ++ wM gm am)[67]? = some q' ∧ q'.1 = q.1 := fun q hq => by
  rw [toW_at sh_67] at hq
  rw [← Option.some.inj hq]
  exact ⟨_, rfl, (rfl : (gx 67) = rho gx gm 67)⟩
set_option maxRecDepth 100000 in
theorem fb_68 {gx gm : Nat → Nat} {ax am : Nat → ClassId} : ∀ q, (toW (rho gx gm) (clA ax) ph0)[68]? = some q → ∃ q', (wX gx ax ++ wM gm am)[68]? = some q' ∧ q'.1 = q.1 := fun q hq => by
  rw [toW_at sh_68] at hq
  rw [← Option.some.inj hq]
  exact ⟨_, rfl, (rfl : (gx 68) = rho gx gm 68)⟩
set_option maxRecDepth 100000 in
theorem fb_69 {gx gm : Nat → Nat} {ax am : Nat → ClassId} : ∀ q, (toW (rho gx gm) (clA ax) ph0)[69]? = some q → ∃ q', (wX gx ax ++ wM gm am)[69]? = some q' ∧ q'.1 = q.1 := fun q hq => by
  rw [toW_at sh_69] at hq
  rw [← Option.some.inj hq]
  exact ⟨_, rfl, (rfl : (gx 69) = rho gx gm 69)⟩
set_option maxRecDepth 100000 in
theorem fb_70 {gx gm : Nat → Nat} {ax am : Nat → ClassId} : ∀ q, (toW (rho gx gm) (clA ax) ph0)[70]? = some q → ∃ q', (wX gx ax ++ wM gm am)[70]? = some q' ∧ q'.1 = q.1 := fun q hq => by
  rw [toW_at sh_70] at hq
  rw [← Option.some.inj hq]
  exact ⟨_, rfl, (rfl : (gx 70) = rho gx gm 70)⟩
set_option maxRecDepth 100000 in
theorem fb_71 {gx gm : Nat → Nat} {ax am : Nat → ClassId} : ∀ q, (toW (rho gx gm) (clA ax) ph0)[71]? = some q → ∃ q', (wX gx ax ++ wM gm am)[71]? = some q' ∧ q'.1 = q.1 := fun q hq => by
  rw [toW_at sh_71] at hq
  rw [← Option.some.inj hq]
  exact ⟨_, rfl, (rfl : (gx 71) = rho gx gm 71)⟩
set_option maxRecDepth 100000 in
theorem fb_72 {gx gm : Nat → Nat} {ax am : Nat → ClassId} : ∀ q, (toW (rho gx gm) (clA ax) ph0)[72]? = some q → ∃ q', (wX gx ax ++ wM gm am)[72]? = some q' ∧ q'.1 = q.1 := fun q hq => by
  rw [toW_at sh_72] at hq
  rw [← Option.some.inj hq]
  exact ⟨_, rfl, (rfl : (gx 72) = rho gx gm 72)⟩
set_option maxRecDepth 100000 in
theorem fb_73 {gx gm : Nat → Nat} {ax am : Nat → ClassId} : ∀ q, (toW (rho gx gm) (clA ax) ph0)[73]? = some q → ∃ q', (wX gx ax ++ wM gm am)[73]? = some q' ∧ q'.1 = q.1 := fun q hq => by
  rw [toW_at sh_73] at hq
  rw [← Option.some.inj hq]
  exact ⟨_, rfl, (rfl : (gx 73) = rho gx gm 73)⟩
set_option maxRecDepth 100000 in
theorem fb_74 {gx gm : Nat → Nat} {ax am : Nat → ClassId} : ∀ q, (toW (rho gx gm) (clA ax) ph0)[74]? = some q → ∃ q', (wX gx ax ++ wM gm am)[74]? = some q' ∧ q'.1 = q.1 := fun q hq => by
  rw [toW_at sh_74] at hq
  rw [← Option.some.inj hq]
  exact ⟨_, rfl, (rfl : (gx 74) = rho gx gm 74)⟩
set_option maxRecDepth 100000 in
theorem fb_75 {gx gm : Nat → Nat} {ax am : Nat → ClassId} : ∀ q, (toW (rho gx gm) (clA ax) ph0)[75]? = some q → ∃ q', (wX gx ax ++ wM gm am)[75]? = some q' ∧ q'.1 = q.1 := fun q hq => by
  rw [toW_at sh_75] at hq
  rw [← Option.some.inj hq]
  exact ⟨_, rfl, (rfl : (gx 75) = rho gx gm 75)⟩
set_option maxRecDepth 100000 in
theorem fb_76 {gx gm : Nat → Nat} {ax am : Nat → ClassId} : ∀ q, (toW (rho gx gm) (clA ax) ph0)[76]? = some q → ∃ q', (wX gx ax ++ wM gm am)[76]? = some q' ∧ q'.1 = q.1 := fun q hq => by
  rw [toW_at sh_76] at hq
  rw [← Option.some.inj hq]
  exact ⟨_, rfl, (rfl : (gx 76) = rho gx gm 76)⟩
set_option maxRecDepth 100000 in
theorem fb_77 {gx gm : Nat → Nat} {ax am : Nat → ClassId} : ∀ q, (toW (rho gx gm) (clA ax) ph0)[77]? = some q → ∃ q', (wX gx ax ++ wM gm am)[77]? = some q' ∧ q'.1 = q.1 := fun q hq => by
  rw [toW_at sh_77] at hq
  rw [← Option.some.inj hq]
  exact ⟨_, rfl, (rfl : (gx 77) = rho gx gm 77)⟩
set_option maxRecDepth 100000 in
theorem fb_78 {gx gm : Nat → Nat} {ax am : Nat → ClassId} : ∀ q, (toW (rho gx gm) (clA ax) ph0)[78]? = some q → ∃ q', (wX gx ax ++ wM gm am)[78]? = some q' ∧ q'.1 = q.1 := fun q hq => by
  rw [toW_at sh_78] at hq
  rw [← Option.some.inj hq]
  exact ⟨_, rfl, (rfl : (gx 78) = rho gx gm 78)⟩
set_option maxRecDepth 100000 in
theorem fb_79 {gx gm : Nat → Nat} {ax am : Nat → ClassId} : ∀ q, (toW (rho gx gm) (clA ax) ph0)[79]? = some q → ∃ q', (wX gx ax ++ wM gm am)[79]? = some q' ∧ q'.1 = q.1 := fun q hq => by
  rw [toW_at sh_79] at hq
  rw [← Option.some.inj hq]
  exact ⟨_, rfl, (rfl : (gx 79) = rho gx gm 79)⟩
set_option maxRecDepth 100000 in
theorem fb_80 {gx gm : Nat → Nat} {ax am : Nat → ClassId} : ∀ q, (toW (rho gx gm) (clA ax) ph0)[80]? = some q → ∃ q', (wX gx ax ++ wM gm am)[80]? = some q' ∧ q'.1 = q.1 := fun q hq => by
  rw [toW_at sh_80] at hq
  rw [← Option.some.inj hq]
  exact ⟨_, rfl, (rfl : (gx 80) = rho gx gm 80)⟩
set_option maxRecDepth 100000 in
theorem fb_81 {gx gm : Nat → Nat} {ax am : Nat → ClassId} : ∀ q, (toW (rho gx gm) (clA ax) ph0)[81]? = some q → ∃ q', (wX gx ax ++ wM gm am)[81]? = some q' ∧ q'.1 = q.1 := fun q hq => by
  rw [toW_at sh_81] at hq
  rw [← Option.some.inj hq]
  exact ⟨_, rfl, (rfl : (gx 81) = rho gx gm 81)⟩
set_option maxRecDepth 100000 in
theorem fb_82 {gx gm : Nat → Nat} {ax am : Nat → ClassId} : ∀ q, (toW (rho gx gm) (clA ax) ph0)[82]? = some q → ∃ q', (wX gx ax ++ wM gm am)[82]? = some q' ∧ q'.1 = q.1 := fun q hq => by
  rw [toW_at sh_82] at hq
  rw [← Option.some.inj hq]
  exact ⟨_, rfl, (rfl : (gx 82) = rho gx gm 82)⟩
set_option maxRecDepth 100000 in
theorem fb_83 {gx gm : Nat → Nat} {ax am : Nat → ClassId} : ∀ q, (toW (rho gx gm) (clA ax) ph0)[83]? = some q → ∃ q', (wX gx ax ++ wM gm am)[83]? = some q' ∧ q'.1 = q.1 := fun q hq => by
  rw [toW_at sh_83] at hq
  rw [← Option.some.inj hq]
  exact ⟨_, rfl, (rfl : (gx 83) = rho gx gm 83)⟩
set_option maxRecDepth 100000 in
theorem fb_84 {gx gm : Nat → Nat} {ax am : Nat → ClassId} : ∀ q, (toW (rho gx gm) (clA ax) ph0)[84]? = some q → ∃ q', (wX gx ax ++ wM gm am)[84]? = some q' ∧ q'.1 = q.1 := fun q hq => by
  rw [toW_at sh_84] at hq
  rw [← Option.some.inj hq]
  exact ⟨_, rfl, (rfl : (gx 84) = rho gx gm 84)⟩
set_option maxRecDepth 100000 in
theorem fb_85 {gx gm : Nat → Nat} {ax am : Nat → ClassId} : ∀ q, (toW (rho gx gm) (clA ax) ph0)[85]? = some q → ∃ q', (wX gx ax ++ wM gm am)[85]? = some q' ∧ q'.1 = q.1 := fun q hq => by
  rw [toW_at sh_85] at hq
  rw [← Option.some.inj hq]
  exact ⟨_, rfl, (rfl : (gx 85) = rho gx gm 85)⟩
set_option maxRecDepth 100000 in
theorem fb_86 {gx gm : Nat → Nat} {ax am : Nat → ClassId} : ∀ q, (toW (rho gx gm) (clA ax) ph0)[86]? = some q → ∃ q', (wX gx ax ++ wM gm am)[86]? = some q' ∧ q'.1 = q.1 := fun q hq => by
  rw [toW_at sh_86] at hq
  rw [← Option.some.inj hq]
  exact ⟨_, rfl, (rfl : (gx 86) = rho gx gm 86)⟩
set_option maxRecDepth 100000 in
theorem fb_87 {gx gm : Nat → Nat} {ax am : Nat → ClassId} : ∀ q, (toW (rho gx gm) (clA ax) ph0)[87]? = some q → ∃ q', (wX gx ax ++ wM gm am)[87]? = some q' ∧ q'.1 = q.1 := fun q hq => by
  rw [toW_at sh_87] at hq
  rw [← Option.some.inj hq]
  exact ⟨_, rfl, (rfl : (gx 87) = rho gx gm 87)⟩
set_option maxRecDepth 100000 in
theorem fb_88 {gx gm : Nat → Nat} {ax am : Nat → ClassId} : ∀ q, (toW (rho gx gm) (clA ax) ph0)[88]? = some q → ∃ q', (wX gx ax ++ wM gm am)[88]? = some q' ∧ q'.1 = q.1 := fun q hq => by
  rw [toW_at sh_88] at hq
  rw [← Option.some.inj hq]
  exact ⟨_, rfl, (rfl : (gx 88) = rho gx gm 88)⟩
set_option maxRecDepth 100000 in
theorem fb_89 {gx gm : Nat → Nat} {ax am : Nat → ClassId} : ∀ q, (toW (rho gx gm) (clA ax) ph0)[89]? = some q → ∃ q', (wX gx ax ++ wM gm am)[89]? = some q' ∧ q'.1 = q.1 := fun q hq => by
  rw [toW_at sh_89] at hq
  rw [← Option.some.inj hq]
  exact ⟨_, rfl, (rfl : (gx 89) = rho gx gm 89)⟩
set_option maxRecDepth 100000 in
theorem fb_90 {gx gm : Nat → Nat} {ax am : Nat → ClassId} : ∀ q, (toW (rho gx gm) (clA ax) ph0)[90]? = some q → ∃ q', (wX gx ax ++ wM gm am)[90]? = some q' ∧ q'.1 = q.1 := fun q hq => by
  rw [toW_at sh_90] at hq
  rw [← Option.some.inj hq]
  exact ⟨_, rfl, (rfl : (gx 90) = rho gx gm 90)⟩
set_option maxRecDepth 100000 in
theorem fb_91 {gx gm : Nat → Nat} {ax am : Nat → ClassId} : ∀ q, (toW (rho gx gm) (clA ax) ph0)[91]? = some q → ∃ q', (wX gx ax ++ wM gm am)[91]? = some q' ∧ q'.1 = q.1 := fun q hq => by
  rw [toW_at sh_91] at hq
  rw [← Option.some.inj hq]
  exact ⟨_, rfl, (rfl : (gx 91) = rho gx gm 91)⟩
set_option maxRecDepth 100000 in
theorem fb_92 {gx gm : Nat → Nat} {ax am : Nat → ClassId} : ∀ q, (toW (rho gx gm) (clA ax) ph0)[92]? = some q → ∃ q', (wX gx ax ++ wM gm am)[92]? = some q' ∧ q'.1 = q.1 := fun q hq => by
  rw [toW_at sh_92] at hq
  rw [← Option.some.inj hq]
  exact ⟨_, rfl, (rfl : (gx 92) = rho gx gm 92)⟩
set_option maxRecDepth 100000 in
theorem fb_93 {gx gm : Nat → Nat} {ax am : Nat → ClassId} : ∀ q, (toW (rho gx gm) (clA ax) ph0)[93]? = some q → ∃ q', (wX gx ax ++ wM gm am)[93]? = some q' ∧ q'.1 = q.1 := fun q hq => by
  rw [toW_at sh_93] at hq
  rw [← Option.some.inj hq]
  exact ⟨_, rfl, (rfl : (gx 93) = rho gx gm 93)⟩
set_option maxRecDepth 100000 in
theorem fb_94 {gx gm : Nat → Nat} {ax am : Nat → ClassId} : ∀ q, (toW (rho gx gm) (clA ax) ph0)[94]? = some q → ∃ q', (wX gx ax ++ wM gm am)[94]? = some q' ∧ q'.1 = q.1 := fun q hq => by
  rw [toW_at sh_94] at hq
  rw [← Option.some.inj hq]
  exact ⟨_, rfl, (rfl : (gx 94) = rho gx gm 94)⟩
set_option maxRecDepth 100000 in
theorem fb_95 {gx gm : Nat → Nat} {ax am : Nat → ClassId} : ∀ q, (toW (rho gx gm) (clA ax) ph0)[95]? = some q → ∃ q', (wX gx ax ++ wM gm am)[95]? = some q' ∧ q'.1 = q.1 := fun q hq => by
  rw [toW_at sh_95] at hq
  rw [← Option.some.inj hq]
  exact ⟨_, rfl, (rfl : (gx 95) = rho gx gm 95)⟩
set_option maxRecDepth 100000 in
theorem fb_96 {gx gm : Nat → Nat} {ax am : Nat → ClassId} : ∀ q, (toW (rho gx gm) (clA ax) ph0)[96]? = some q → ∃ q', (wX gx ax ++ wM gm am)[96]? = some q' ∧ q'.1 = q.1 := fun q hq => by
  rw [toW_at sh_96] at hq
  rw [← Option.some.inj hq]
  exact ⟨_, rfl, (rfl : (gm 0) = rho gx gm 96)⟩
set_option maxRecDepth 100000 in
theorem fb_97 {gx gm : Nat → Nat} {ax am : Nat → ClassId} : ∀ q, (toW (rho gx gm) (clA ax) ph0)[97]? = some q → ∃ q', (wX gx ax ++ wM gm am)[97]? = some q' ∧ q'.1 = q.1 := fun q hq => by
  rw [toW_at sh_97] at hq
  rw [← Option.some.inj hq]
  exact ⟨_, rfl, (rfl : (gm 1) = rho gx gm 97)⟩
set_option maxRecDepth 100000 in
theorem fb_98 {gx gm : Nat → Nat} {ax am : Nat → ClassId} : ∀ q, (toW (rho gx gm) (clA ax) ph0)[98]? = some q → ∃ q', (wX gx ax ++ wM gm am)[98]? = some q' ∧ q'.1 = q.1 := fun q hq => by
  rw [toW_at sh_98] at hq
  rw [← Option.some.inj hq]
  exact ⟨_, rfl, (rfl : (gm 2) = rho gx gm 98)⟩
set_option maxRecDepth 100000 in
theorem fb_99 {gx gm : Nat → Nat} {ax am : Nat → ClassId} : ∀ q, (toW (rho gx gm) (clA ax) ph0)[99]? = some q → ∃ q', (wX gx ax ++ wM gm am)[99]? = some q' ∧ q'.1 = q.1 := fun q hq => by
  rw [toW_at sh_99] at hq
  rw [← Option.some.inj hq]
  exact ⟨_, rfl, (rfl : (gm 3) = rho gx gm 99)⟩
set_option maxRecDepth 100000 in
theorem fb_100 {gx gm : Nat → Nat} {ax am : Nat → ClassId} : ∀ q, (toW (rho gx gm) (clA ax) ph0)[100]? = some q → ∃ q', (wX gx ax ++ wM gm am)[100]? = some q' ∧ q'.1 = q.1 := fun q hq => by
  rw [toW_at sh_100] at hq
  rw [← Option.some.inj hq]
  exact ⟨_, rfl, (rfl : (gm 4) = rho gx gm 100)⟩
set_option maxRecDepth 100000 in
theorem fb_101 {gx gm : Nat → Nat} {ax am : Nat → ClassId} : ∀ q, (toW (rho gx gm) (clA ax) ph0)[101]? = some q → ∃ q', (wX gx ax ++ wM gm am)[101]? = some q' ∧ q'.1 = q.1 := fun q hq => by
  rw [toW_at sh_101] at hq
  rw [← Option.some.inj hq]
  exact ⟨_, rfl, (rfl : (gm 6) = rho gx gm 101)⟩
set_option maxRecDepth 100000 in
theorem fb_102 {gx gm : Nat → Nat} {ax am : Nat → ClassId} : ∀ q, (toW (rho gx gm) (clA ax) ph0)[102]? = some q → ∃ q', (wX gx ax ++ wM gm am)[102]? = some q' ∧ q'.1 = q.1 := fun q hq => by
  rw [toW_at sh_102] at hq
  rw [← Option.some.inj hq]
  exact ⟨_, rfl, (rfl : (gm 14) = rho gx gm 102)⟩
set_option maxRecDepth 100000 in
theorem fb_103 {gx gm : Nat → Nat} {ax am : Nat → ClassId} : ∀ q, (toW (rho gx gm) (clA ax) ph0)[103]? = some q → ∃ q', (wX gx ax ++ wM gm am)[103]? = some q' ∧ q'.1 = q.1 := fun q hq => by
  rw [toW_at sh_103] at hq
  rw [← Option.some.inj hq]
  exact ⟨_, rfl, (rfl : (gm 15) = rho gx gm 103)⟩
set_option maxRecDepth 100000 in
theorem fb_104 {gx gm : Nat → Nat} {ax am : Nat → ClassId} : ∀ q, (toW (rho gx gm) (clA ax) ph0)[104]? = some q → ∃ q', (wX gx ax ++ wM gm am)[104]? = some q' ∧ q'.1 = q.1 := fun q hq => by
  rw [toW_at sh_104] at hq
  rw [← Option.some.inj hq]
  exact ⟨_, rfl, (rfl : (gm 16) = rho gx gm 104)⟩
set_option maxRecDepth 100000 in
theorem fb_105 {gx gm : Nat → Nat} {ax am : Nat → ClassId} : ∀ q, (toW (rho gx gm) (clA ax) ph0)[105]? = some q → ∃ q', (wX gx ax ++ wM gm am)[105]? = some q' ∧ q'.1 = q.1 := fun q hq => by
  rw [toW_at sh_105] at hq
  rw [← Option.some.inj hq]
  exact ⟨_, rfl, (rfl : (gm 17) = rho gx gm 105)⟩
set_option maxRecDepth 100000 in
theorem fb_106 {gx gm : Nat → Nat} {ax am : Nat → ClassId} : ∀ q, (toW (rho gx gm) (clA ax) ph0)[106]? = some q → ∃ q', (wX gx ax ++ wM gm am)[106]? = some q' ∧ q'.1 = q.1 := fun q hq => by
  rw [toW_at sh_106] at hq
  rw [← Option.some.inj hq]
  exact ⟨_, rfl, (rfl : (gm 21) = rho gx gm 106)⟩
set_option maxRecDepth 100000 in
theorem fb_107 {gx gm : Nat → Nat} {ax am : Nat → ClassId} : ∀ q, (toW (rho gx gm) (clA ax) ph0)[107]? = some q → ∃ q', (wX gx ax ++ wM gm am)[107]? = some q' ∧ q'.1 = q.1 := fun q hq => by
  rw [toW_at sh_107] at hq
  rw [← Option.some.inj hq]
  exact ⟨_, rfl, (rfl : (gm 22) = rho gx gm 107)⟩
set_option maxRecDepth 100000 in
theorem fb_108 {gx gm : Nat → Nat} {ax am : Nat → ClassId} : ∀ q, (toW (rho gx gm) (clA ax) ph0)[108]? = some q → ∃ q', (wX gx ax ++ wM gm am)[108]? = some q' ∧ q'.1 = q.1 := fun q hq => by
  rw [toW_at sh_108] at hq
  rw [← Option.some.inj hq]
  exact ⟨_, rfl, (rfl : (gm 23) = rho gx gm 108)⟩
set_option maxRecDepth 100000 in
theorem fb_109 {gx gm : Nat → Nat} {ax am : Nat → ClassId} : ∀ q, (toW (rho gx gm) (clA ax) ph0)[109]? = some q → ∃ q', (wX gx ax ++ wM gm am)[109]? = some q' ∧ q'.1 = q.1 := fun q hq => by
  rw [toW_at sh_109] at hq
  rw [← Option.some.inj hq]
  exact ⟨_, rfl, (rfl : (gm 24) = rho gx gm 109)⟩
set_option maxRecDepth 100000 in
theorem fb_110 {gx gm : Nat → Nat} {ax am : Nat → ClassId} : ∀ q, (toW (rho gx gm) (clA ax) ph0)[110]? = some q → ∃ q', (wX gx ax ++ wM gm am)[110]? = some q' ∧ q'.1 = q.1 := fun q hq => by
  rw [toW_at sh_110] at hq
  rw [← Option.some.inj hq]
  exact ⟨_, rfl, (rfl : (gm 25) = rho gx gm 110)⟩
set_option maxRecDepth 100000 in
theorem fb_111 {gx gm : Nat → Nat} {ax am : Nat → ClassId} : ∀ q, (toW (rho gx gm) (clA ax) ph0)[111]? = some q → ∃ q', (wX gx ax ++ wM gm am)[111]? = some q' ∧ q'.1 = q.1 := fun q hq => by
  rw [toW_at sh_111] at hq
  rw [← Option.some.inj hq]
  exact ⟨_, rfl, (rfl : (gm 26) = rho gx gm 111)⟩
set_option maxRecDepth 100000 in
theorem fb_112 {gx gm : Nat → Nat} {ax am : Nat → ClassId} : ∀ q, (toW (rho gx gm) (clA ax) ph0)[112]? = some q → ∃ q', (wX gx ax ++ wM gm am)[112]? = some q' ∧ q'.1 = q.1 := fun q hq => by
  rw [toW_at sh_112] at hq
  rw [← Option.some.inj hq]
  exact ⟨_, rfl, (rfl : (gm 27) = rho gx gm 112)⟩
set_option maxRecDepth 100000 in
theorem fb_113 {gx gm : Nat → Nat} {ax am : Nat → ClassId} : ∀ q, (toW (rho gx gm) (clA ax) ph0)[113]? = some q → ∃ q', (wX gx ax ++ wM gm am)[113]? = some q' ∧ q'.1 = q.1 := fun q hq => by
  rw [toW_at sh_113] at hq
  rw [← Option.some.inj hq]
  exact ⟨_, rfl, (rfl : (gm 28) = rho gx gm 113)⟩
set_option maxRecDepth 100000 in
theorem fb_114 {gx gm : Nat → Nat} {ax am : Nat → ClassId} : ∀ q, (toW (rho gx gm) (clA ax) ph0)[114]? = some q → ∃ q', (wX gx ax ++ wM gm am)[114]? = some q' ∧ q'.1 = q.1 := fun q hq => by
  rw [toW_at sh_114] at hq
  rw [← Option.some.inj hq]
  exact ⟨_, rfl, (rfl : (gm 29) = rho gx gm 114)⟩
set_option maxRecDepth 100000 in
theorem fb_115 {gx gm : Nat → Nat} {ax am : Nat → ClassId} : ∀ q, (toW (rho gx gm) (clA ax) ph0)[115]? = some q → ∃ q', (wX gx ax ++ wM gm am)[115]? = some q' ∧ q'.1 = q.1 := fun q hq => by
  rw [toW_at sh_115] at hq
  rw [← Option.some.inj hq]
  exact ⟨_, rfl, (rfl : (gm 30) = rho gx gm 115)⟩
set_option maxRecDepth 100000 in
theorem fb_116 {gx gm : Nat → Nat} {ax am : Nat → ClassId} : ∀ q, (toW (rho gx gm) (clA ax) ph0)[116]? = some q → ∃ q', (wX gx ax ++ wM gm am)[116]? = some q' ∧ q'.1 = q.1 := fun q hq => by
  rw [toW_at sh_116] at hq
  rw [← Option.some.inj hq]
  exact ⟨_, rfl, (rfl : (gm 31) = rho gx gm 116)⟩
set_option maxRecDepth 100000 in
theorem fb_117 {gx gm : Nat → Nat} {ax am : Nat → ClassId} : ∀ q, (toW (rho gx gm) (clA ax) ph0)[117]? = some q → ∃ q', (wX gx ax ++ wM gm am)[117]? = some q' ∧ q'.1 = q.1 := fun q hq => by
  rw [toW_at sh_117] at hq
  rw [← Option.some.inj hq]
  exact ⟨_, rfl, (rfl : (gm 32) = rho gx gm 117)⟩
set_option maxRecDepth 100000 in
theorem fb_118 {gx gm : Nat → Nat} {ax am : Nat → ClassId} : ∀ q, (toW (rho gx gm) (clA ax) ph0)[118]? = some q → ∃ q', (wX gx ax ++ wM gm am)[118]? = some q' ∧ q'.1 = q.1 := fun q hq => by
  rw [toW_at sh_118] at hq
  rw [← Option.some.inj hq]
  exact ⟨_, rfl, (rfl : (gm 33) = rho gx gm 118)⟩
set_option maxRecDepth 100000 in
theorem fb_119 {gx gm : Nat → Nat} {ax am : Nat → ClassId} : ∀ q, (toW (rho gx gm) (clA ax) ph0)[119]? = some q → ∃ q', (wX gx ax ++ wM gm am)[119]? = some q' ∧ q'.1 = q.1 := fun q hq => by
  rw [toW_at sh_119] at hq
  rw [← Option.some.inj hq]
  exact ⟨_, rfl, (rfl : (gm 37) = rho gx gm 119)⟩
set_option maxRecDepth 100000 in
theorem fb_120 {gx gm : Nat → Nat} {ax am : Nat → ClassId} : ∀ q, (toW (rho gx gm) (clA ax) ph0)[120]? = some q → ∃ q', (wX gx ax ++ wM gm am)[120]? = some q' ∧ q'.1 = q.1 := fun q hq => by
  rw [toW_at sh_120] at hq
  rw [← Option.some.inj hq]
  exact ⟨_, rfl, (rfl : (gm 38) = rho gx gm 120)⟩
set_option maxRecDepth 100000 in
theorem fb_121 {gx gm : Nat → Nat} {ax am : Nat → ClassId} : ∀ q, (toW (rho gx gm) (clA ax) ph0)[121]? = some q → ∃ q', (wX gx ax ++ wM gm am)[121]? = some q' ∧ q'.1 = q.1 := fun q hq => by
  rw [toW_at sh_121] at hq
  rw [← Option.some.inj hq]
  exact ⟨_, rfl, (rfl : (gm 39) = rho gx gm 121)⟩
set_option maxRecDepth 100000 in
theorem fb_122 {gx gm : Nat → Nat} {ax am : Nat → ClassId} : ∀ q, (toW (rho gx gm) (clA ax) ph0)[122]? = some q → ∃ q', (wX gx ax ++ wM gm am)[122]? = some q' ∧ q'.1 = q.1 := fun q hq => by
  rw [toW_at sh_122] at hq
  rw [← Option.some.inj hq]
  exact ⟨_, rfl, (rfl : (gm 40) = rho gx gm 122)⟩
set_option maxRecDepth 100000 in
theorem fb_123 {gx gm : Nat → Nat} {ax am : Nat → ClassId} : ∀ q, (toW (rho gx gm) (clA ax) ph0)[123]? = some q → ∃ q', (wX gx ax ++ wM gm am)[123]? = some q' ∧ q'.1 = q.1 := fun q hq => by
  rw [toW_at sh_123] at hq
  rw [← Option.some.inj hq]
  exact ⟨_, rfl, (rfl : (gm 45) = rho gx gm 123)⟩
set_option maxRecDepth 100000 in
theorem fb_124 {gx gm : Nat → Nat} {ax am : Nat → ClassId} : ∀ q, (toW (rho gx gm) (clA ax) ph0)[124]? = some q → ∃ q', (wX gx ax ++ wM gm am)[124]? = some q' ∧ q'.1 = q.1 := fun q hq => by
  rw [toW_at sh_124] at hq
  rw [← Option.some.inj hq]
  exact ⟨_, rfl, (rfl : (gm 49) = rho gx gm 124)⟩
set_option maxRecDepth 100000 in
theorem fb_125 {gx gm : Nat → Nat} {ax am : Nat → ClassId} : ∀ q, (toW (rho gx gm) (clA ax) ph0)[125]? = some q → ∃ q', (wX gx ax ++ wM gm am)[125]? = some q' ∧ q'.1 = q.1 := fun q hq => by
  rw [toW_at sh_125] at hq
  rw [← Option.some.inj hq]
  exact ⟨_, rfl, (rfl : (gm 50) = rho gx gm 125)⟩
set_option maxRecDepth 100000 in
theorem fb_126 {gx gm : Nat → Nat} {ax am : Nat → ClassId} : ∀ q, (toW (rho gx gm) (clA ax) ph0)[126]? = some q → ∃ q', (wX gx ax ++ wM gm am)[126]? = some q' ∧ q'.1 = q.1 := fun q hq => by
  rw [toW_at sh_126] at hq
  rw [← Option.some.inj hq]
  exact ⟨_, rfl, (rfl : (gm 53) = rho gx gm 126)⟩
set_option maxRecDepth 100000 in
theorem fb_127 {gx gm : Nat → Nat} {ax am : Nat → ClassId} : ∀ q, (toW (rho gx gm) (clA ax) ph0)[127]? = some q → ∃ q', (wX gx ax ++ wM gm am)[127]? = some q' ∧ q'.1 = q.1 := fun q hq => by
  rw [toW_at sh_127] at hq
  rw [← Option.some.inj hq]
  exact ⟨_, rfl, (rfl : (gm 57) = rho gx gm 127)⟩
set_option maxRecDepth 100000 in
theorem fb_128 {gx gm : Nat → Nat} {ax am : Nat → ClassId} : ∀ q, (toW (rho gx gm) (clA ax) ph0)[128]? = some q → ∃ q', (wX gx ax ++ wM gm am)[128]? = some q' ∧ q'.1 = q.1 := fun q hq => by
  rw [toW_at sh_128] at hq
  rw [← Option.some.inj hq]
  exact ⟨_, rfl, (rfl : (gm 58) = rho gx gm 128)⟩
set_option maxRecDepth 100000 in
theorem fb_129 {gx gm : Nat → Nat} {ax am : Nat → ClassId} : ∀ q, (toW (rho gx gm) (clA ax) ph0)[129]? = some q → ∃ q', (wX gx ax ++ wM gm am)[129]? = some q' ∧ q'.1 = q.1 := fun q hq => by
  rw [toW_at sh_129] at hq
  rw [← Option.some.inj hq]
  exact ⟨_, rfl, (rfl : (gm 59) = rho gx gm 129)⟩
set_option maxRecDepth 100000 in
theorem fb_130 {gx gm : Nat → Nat} {ax am : Nat → ClassId} : ∀ q, (toW (rho gx gm) (clA ax) ph0)[130]? = some q → ∃ q', (wX gx ax ++ wM gm am)[130]? = some q' ∧ q'.1 = q.1 := fun q hq => by
  rw [toW_at sh_130] at hq
  rw [← Option.some.inj hq]
  exact ⟨_, rfl, (rfl : (gm 60) = rho gx gm 130)⟩

set_option maxRecDepth 100000 in
set_option maxHeartbeats 4000000 in
theorem bridge {dC : Nat → ClassId} {dI : Nat → Nat → Nat} {s : State} {gx gm : Nat → Nat} {ax am : Nat → ClassId} {H : Heap} {A : Nat → Prop} (hK : va_K (dC, dI) vwCl (tX ax ++ tM am) s) (hP : va_P (dC, dI) vwCl (wX gx ax ++ wM gm am) H) (hD : va_D A (wX gx ax ++ wM gm am)) : va_K (dC, dI) vwCl (tysP (clA ax)) s ∧ va_P (dC, dI) vwCl (toW (rho gx gm) (clA ax) ph0) H ∧ va_D A (toW (rho gx gm) (clA ax) ph0) := by
  refine ⟨hK.sub [1, 0, 57, 5, 56] rfl, fun k q hq => ?_, D_key (fun k q hq => ?_) hD⟩
  · have h_0 : ∀ k : Nat, k < 0 → (fun k : Nat => ∀ q, (toW (rho gx gm) (clA ax) ph0)[k]? = some q → va_at (dC, dI) vwCl q H) k := lt_0
    have h_1 : ∀ k : Nat, k < 1 → (fun k : Nat => ∀ q, (toW (rho gx gm) (clA ax) ph0)[k]? = some q → va_at (dC, dI) vwCl q H) k := lt_s (p := fun k : Nat => ∀ q, (toW (rho gx gm) (clA ax) ph0)[k]? = some q → va_at (dC, dI) vwCl q H) h_0 (pb_0 hK hP)
    have h_2 : ∀ k : Nat, k < 2 → (fun k : Nat => ∀ q, (toW (rho gx gm) (clA ax) ph0)[k]? = some q → va_at (dC, dI) vwCl q H) k := lt_s (p := fun k : Nat => ∀ q, (toW (rho gx gm) (clA ax) ph0)[k]? = some q → va_at (dC, dI) vwCl q H) h_1 (pb_1 hK hP)
    have h_3 : ∀ k : Nat, k < 3 → (fun k : Nat => ∀ q, (toW (rho gx gm) (clA ax) ph0)[k]? = some q → va_at (dC, dI) vwCl q H) k := lt_s (p := fun k : Nat => ∀ q, (toW (rho gx gm) (clA ax) ph0)[k]? = some q → va_at (dC, dI) vwCl q H) h_2 (pb_2 hK hP)
    have h_4 : ∀ k : Nat, k < 4 → (fun k : Nat => ∀ q, (toW (rho gx gm) (clA ax) ph0)[k]? = some q → va_at (dC, dI) vwCl q H) k := lt_s (p := fun k : Nat => ∀ q, (toW (rho gx gm) (clA ax) ph0)[k]? = some q → va_at (dC, dI) vwCl q H) h_3 (pb_3 hK hP)
    have h_5 : ∀ k : Nat, k < 5 → (fun k : Nat => ∀ q, (toW (rho gx gm) (clA ax) ph0)[k]? = some q → va_at (dC, dI) vwCl q H) k := lt_s (p := fun k : Nat => ∀ q, (toW (rho gx gm) (clA ax) ph0)[k]? = some q → va_at (dC, dI) vwCl q H) h_4 (pb_4 hK hP)
    have h_6 : ∀ k : Nat, k < 6 → (fun k : Nat => ∀ q, (toW (rho gx gm) (clA ax) ph0)[k]? = some q → va_at (dC, dI) vwCl q H) k := lt_s (p := fun k : Nat => ∀ q, (toW (rho gx gm) (clA ax) ph0)[k]? = some q → va_at (dC, dI) vwCl q H) h_5 (pb_5 hK hP)
    have h_7 : ∀ k : Nat, k < 7 → (fun k : Nat => ∀ q, (toW (rho gx gm) (clA ax) ph0)[k]? = some q → va_at (dC, dI) vwCl q H) k := lt_s (p := fun k : Nat => ∀ q, (toW (rho gx gm) (clA ax) ph0)[k]? = some q → va_at (dC, dI) vwCl q H) h_6 (pb_6 hK hP)
    have h_8 : ∀ k : Nat, k < 8 → (fun k : Nat => ∀ q, (toW (rho gx gm) (clA ax) ph0)[k]? = some q → va_at (dC, dI) vwCl q H) k := lt_s (p := fun k : Nat => ∀ q, (toW (rho gx gm) (clA ax) ph0)[k]? = some q → va_at (dC, dI) vwCl q H) h_7 (pb_7 hK hP)
    have h_9 : ∀ k : Nat, k < 9 → (fun k : Nat => ∀ q, (toW (rho gx gm) (clA ax) ph0)[k]? = some q → va_at (dC, dI) vwCl q H) k := lt_s (p := fun k : Nat => ∀ q, (toW (rho gx gm) (clA ax) ph0)[k]? = some q → va_at (dC, dI) vwCl q H) h_8 (pb_8 hK hP)
    have h_10 : ∀ k : Nat, k < 10 → (fun k : Nat => ∀ q, (toW (rho gx gm) (clA ax) ph0)[k]? = some q → va_at (dC, dI) vwCl q H) k := lt_s (p := fun k : Nat => ∀ q, (toW (rho gx gm) (clA ax) ph0)[k]? = some q → va_at (dC, dI) vwCl q H) h_9 (pb_9 hK hP)
    have h_11 : ∀ k : Nat, k < 11 → (fun k : Nat => ∀ q, (toW (rho gx gm) (clA ax) ph0)[k]? = some q → va_at (dC, dI) vwCl q H) k := lt_s (p := fun k : Nat => ∀ q, (toW (rho gx gm) (clA ax) ph0)[k]? = some q → va_at (dC, dI) vwCl q H) h_10 (pb_10 hK hP)
    have h_12 : ∀ k : Nat, k < 12 → (fun k : Nat => ∀ q, (toW (rho gx gm) (clA ax) ph0)[k]? = some q → va_at (dC, dI) vwCl q H) k := lt_s (p := fun k : Nat => ∀ q, (toW (rho gx gm) (clA ax) ph0)[k]? = some q → va_at (dC, dI) vwCl q H) h_11 (pb_11 hK hP)
    have h_13 : ∀ k : Nat, k < 13 → (fun k : Nat => ∀ q, (toW (rho gx gm) (clA ax) ph0)[k]? = some q → va_at (dC, dI) vwCl q H) k := lt_s (p := fun k : Nat => ∀ q, (toW (rho gx gm) (clA ax) ph0)[k]? = some q → va_at (dC, dI) vwCl q H) h_12 (pb_12 hK hP)
    have h_14 : ∀ k : Nat, k < 14 → (fun k : Nat => ∀ q, (toW (rho gx gm) (clA ax) ph0)[k]? = some q → va_at (dC, dI) vwCl q H) k := lt_s (p := fun k : Nat => ∀ q, (toW (rho gx gm) (clA ax) ph0)[k]? = some q → va_at (dC, dI) vwCl q H) h_13 (pb_13 hK hP)
    have h_15 : ∀ k : Nat, k < 15 → (fun k : Nat => ∀ q, (toW (rho gx gm) (clA ax) ph0)[k]? = some q → va_at (dC, dI) vwCl q H) k := lt_s (p := fun k : Nat => ∀ q, (toW (rho gx gm) (clA ax) ph0)[k]? = some q → va_at (dC, dI) vwCl q H) h_14 (pb_14 hK hP)
    have h_16 : ∀ k : Nat, k < 16 → (fun k : Nat => ∀ q, (toW (rho gx gm) (clA ax) ph0)[k]? = some q → va_at (dC, dI) vwCl q H) k := lt_s (p := fun k : Nat => ∀ q, (toW (rho gx gm) (clA ax) ph0)[k]? = some q → va_at (dC, dI) vwCl q H) h_15 (pb_15 hK hP)
    have h_17 : ∀ k : Nat, k < 17 → (fun k : Nat => ∀ q, (toW (rho gx gm) (clA ax) ph0)[k]? = some q → va_at (dC, dI) vwCl q H) k := lt_s (p := fun k : Nat => ∀ q, (toW (rho gx gm) (clA ax) ph0)[k]? = some q → va_at (dC, dI) vwCl q H) h_16 (pb_16 hK hP)
    have h_18 : ∀ k : Nat, k < 18 → (fun k : Nat => ∀ q, (toW (rho gx gm) (clA ax) ph0)[k]? = some q → va_at (dC, dI) vwCl q H) k := lt_s (p := fun k : Nat => ∀ q, (toW (rho gx gm) (clA ax) ph0)[k]? = some q → va_at (dC, dI) vwCl q H) h_17 (pb_17 hK hP)
    have h_19 : ∀ k : Nat, k < 19 → (fun k : Nat => ∀ q, (toW (rho gx gm) (clA ax) ph0)[k]? = some q → va_at (dC, dI) vwCl q H) k := lt_s (p := fun k : Nat => ∀ q, (toW (rho gx gm) (clA ax) ph0)[k]? = some q → va_at (dC, dI) vwCl q H) h_18 (pb_18 hK hP)
    have h_20 : ∀ k : Nat, k < 20 → (fun k : Nat => ∀ q, (toW (rho gx gm) (clA ax) ph0)[k]? = some q → va_at (dC, dI) vwCl q H) k := lt_s (p := fun k : Nat => ∀ q, (toW (rho gx gm) (clA ax) ph0)[k]? = some q → va_at (dC, dI) vwCl q H) h_19 (pb_19 hK hP)
    have h_21 : ∀ k : Nat, k < 21 → (fun k : Nat => ∀ q, (toW (rho gx gm) (clA ax) ph0)[k]? = some q → va_at (dC, dI) vwCl q H) k := lt_s (p := fun k : Nat => ∀ q, (toW (rho gx gm) (clA ax) ph0)[k]? = some q → va_at (dC, dI) vwCl q H) h_20 (pb_20 hK hP)
    have h_22 : ∀ k : Nat, k < 22 → (fun k : Nat => ∀ q, (toW (rho gx gm) (clA ax) ph0)[k]? = some q → va_at (dC, dI) vwCl q H) k := lt_s (p := fun k : Nat => ∀ q, (toW (rho gx gm) (clA ax) ph0)[k]? = some q → va_at (dC, dI) vwCl q H) h_21 (pb_21 hK hP)
    have h_23 : ∀ k : Nat, k < 23 → (fun k : Nat => ∀ q, (toW (rho gx gm) (clA ax) ph0)[k]? = some q → va_at (dC, dI) vwCl q H) k := lt_s (p := fun k : Nat => ∀ q, (toW (rho gx gm) (clA ax) ph0)[k]? = some q → va_at (dC, dI) vwCl q H) h_22 (pb_22 hK hP)
    have h_24 : ∀ k : Nat, k < 24 → (fun k : Nat => ∀ q, (toW (rho gx gm) (clA ax) ph0)[k]? = some q → va_at (dC, dI) vwCl q H) k := lt_s (p := fun k : Nat => ∀ q, (toW (rho gx gm) (clA ax) ph0)[k]? = some q → va_at (dC, dI) vwCl q H) h_23 (pb_23 hK hP)
    have h_25 : ∀ k : Nat, k < 25 → (fun k : Nat => ∀ q, (toW (rho gx gm) (clA ax) ph0)[k]? = some q → va_at (dC, dI) vwCl q H) k := lt_s (p := fun k : Nat => ∀ q, (toW (rho gx gm) (clA ax) ph0)[k]? = some q → va_at (dC, dI) vwCl q H) h_24 (pb_24 hK hP)
    have h_26 : ∀ k : Nat, k < 26 → (fun k : Nat => ∀ q, (toW (rho gx gm) (clA ax) ph0)[k]? = some q → va_at (dC, dI) vwCl q H) k := lt_s (p := fun k : Nat => ∀ q, (toW (rho gx gm) (clA ax) ph0)[k]? = some q → va_at (dC, dI) vwCl q H) h_25 (pb_25 hK hP)
    have h_27 : ∀ k : Nat, k < 27 → (fun k : Nat => ∀ q, (toW (rho gx gm) (clA ax) ph0)[k]? = some q → va_at (dC, dI) vwCl q H) k := lt_s (p := fun k : Nat => ∀ q, (toW (rho gx gm) (clA ax) ph0)[k]? = some q → va_at (dC, dI) vwCl q H) h_26 (pb_26 hK hP)
    have h_28 : ∀ k : Nat, k < 28 → (fun k : Nat => ∀ q, (toW (rho gx gm) (clA ax) ph0)[k]? = some q → va_at (dC, dI) vwCl q H) k := lt_s (p := fun k : Nat => ∀ q, (toW (rho gx gm) (clA ax) ph0)[k]? = some q → va_at (dC, dI) vwCl q H) h_27 (pb_27 hK hP)
    have h_29 : ∀ k : Nat, k < 29 → (fun k : Nat => ∀ q, (toW (rho gx gm) (clA ax) ph0)[k]? = some q → va_at (dC, dI) vwCl q H) k := lt_s (p := fun k : Nat => ∀ q, (toW (rho gx gm) (clA ax) ph0)[k]? = some q → va_at (dC, dI) vwCl q H) h_28 (pb_28 hK hP)
    have h_30 : ∀ k : Nat, k < 30 → (fun k : Nat => ∀ q, (toW (rho gx gm) (clA ax) ph0)[k]? = some q → va_at (dC, dI) vwCl q H) k := lt_s (p := fun k : Nat => ∀ q, (toW (rho gx gm) (clA ax) ph0)[k]? = some q → va_at (dC, dI) vwCl q H) h_29 (pb_29 hK hP)
    have h_31 : ∀ k : Nat, k < 31 → (fun k : Nat => ∀ q, (toW (rho gx gm) (clA ax) ph0)[k]? = some q → va_at (dC, dI) vwCl q H) k := lt_s (p := fun k : Nat => ∀ q, (toW (rho gx gm) (clA ax) ph0)[k]? = some q → va_at (dC, dI) vwCl q H) h_30 (pb_30 hK hP)
    have h_32 : ∀ k : Nat, k < 32 → (fun k : Nat => ∀ q, (toW (rho gx gm) (clA ax) ph0)[k]? = some q → va_at (dC, dI) vwCl q H) k := lt_s (p := fun k : Nat => ∀ q, (toW (rho gx gm) (clA ax) ph0)[k]? = some q → va_at (dC, dI) vwCl q H) h_31 (pb_31 hK hP)
    have h_33 : ∀ k : Nat, k < 33 → (fun k : Nat => ∀ q, (toW (rho gx gm) (clA ax) ph0)[k]? = some q → va_at (dC, dI) vwCl q H) k := lt_s (p := fun k : Nat => ∀ q, (toW (rho gx gm) (clA ax) ph0)[k]? = some q → va_at (dC, dI) vwCl q H) h_32 (pb_32 hK hP)
    have h_34 : ∀ k : Nat, k < 34 → (fun k : Nat => ∀ q, (toW (rho gx gm) (clA ax) ph0)[k]? = some q → va_at (dC, dI) vwCl q H) k := lt_s (p := fun k : Nat => ∀ q, (toW (rho gx gm) (clA ax) ph0)[k]? = some q → va_at (dC, dI) vwCl q H) h_33 (pb_33 hK hP)
    have h_35 : ∀ k : Nat, k < 35 → (fun k : Nat => ∀ q, (toW (rho gx gm) (clA ax) ph0)[k]? = some q → va_at (dC, dI) vwCl q H) k := lt_s (p := fun k : Nat => ∀ q, (toW (rho gx gm) (clA ax) ph0)[k]? = some q → va_at (dC, dI) vwCl q H) h_34 (pb_34 hK hP)
    have h_36 : ∀ k : Nat, k < 36 → (fun k : Nat => ∀ q, (toW (rho gx gm) (clA ax) ph0)[k]? = some q → va_at (dC, dI) vwCl q H) k := lt_s (p := fun k : Nat => ∀ q, (toW (rho gx gm) (clA ax) ph0)[k]? = some q → va_at (dC, dI) vwCl q H) h_35 (pb_35 hK hP)
    have h_37 : ∀ k : Nat, k < 37 → (fun k : Nat => ∀ q, (toW (rho gx gm) (clA ax) ph0)[k]? = some q → va_at (dC, dI) vwCl q H) k := lt_s (p := fun k : Nat => ∀ q, (toW (rho gx gm) (clA ax) ph0)[k]? = some q → va_at (dC, dI) vwCl q H) h_36 (pb_36 hK hP)
    have h_38 : ∀ k : Nat, k < 38 → (fun k : Nat => ∀ q, (toW (rho gx gm) (clA ax) ph0)[k]? = some q → va_at (dC, dI) vwCl q H) k := lt_s (p := fun k : Nat => ∀ q, (toW (rho gx gm) (clA ax) ph0)[k]? = some q → va_at (dC, dI) vwCl q H) h_37 (pb_37 hK hP)
    have h_39 : ∀ k : Nat, k < 39 → (fun k : Nat => ∀ q, (toW (rho gx gm) (clA ax) ph0)[k]? = some q → va_at (dC, dI) vwCl q H) k := lt_s (p := fun k : Nat => ∀ q, (toW (rho gx gm) (clA ax) ph0)[k]? = some q → va_at (dC, dI) vwCl q H) h_38 (pb_38 hK hP)
    have h_40 : ∀ k : Nat, k < 40 → (fun k : Nat => ∀ q, (toW (rho gx gm) (clA ax) ph0)[k]? = some q → va_at (dC, dI) vwCl q H) k := lt_s (p := fun k : Nat => ∀ q, (toW (rho gx gm) (clA ax) ph0)[k]? = some q → va_at (dC, dI) vwCl q H) h_39 (pb_39 hK hP)
    have h_41 : ∀ k : Nat, k < 41 → (fun k : Nat => ∀ q, (toW (rho gx gm) (clA ax) ph0)[k]? = some q → va_at (dC, dI) vwCl q H) k := lt_s (p := fun k : Nat => ∀ q, (toW (rho gx gm) (clA ax) ph0)[k]? = some q → va_at (dC, dI) vwCl q H) h_40 (pb_40 hK hP)
    have h_42 : ∀ k : Nat, k < 42 → (fun k : Nat => ∀ q, (toW (rho gx gm) (clA ax) ph0)[k]? = some q → va_at (dC, dI) vwCl q H) k := lt_s (p := fun k : Nat => ∀ q, (toW (rho gx gm) (clA ax) ph0)[k]? = some q → va_at (dC, dI) vwCl q H) h_41 (pb_41 hK hP)
    have h_43 : ∀ k : Nat, k < 43 → (fun k : Nat => ∀ q, (toW (rho gx gm) (clA ax) ph0)[k]? = some q → va_at (dC, dI) vwCl q H) k := lt_s (p := fun k : Nat => ∀ q, (toW (rho gx gm) (clA ax) ph0)[k]? = some q → va_at (dC, dI) vwCl q H) h_42 (pb_42 hK hP)
    have h_44 : ∀ k : Nat, k < 44 → (fun k : Nat => ∀ q, (toW (rho gx gm) (clA ax) ph0)[k]? = some q → va_at (dC, dI) vwCl q H) k := lt_s (p := fun k : Nat => ∀ q, (toW (rho gx gm) (clA ax) ph0)[k]? = some q → va_at (dC, dI) vwCl q H) h_43 (pb_43 hK hP)
    have h_45 : ∀ k : Nat, k < 45 → (fun k : Nat => ∀ q, (toW (rho gx gm) (clA ax) ph0)[k]? = some q → va_at (dC, dI) vwCl q H) k := lt_s (p := fun k : Nat => ∀ q, (toW (rho gx gm) (clA ax) ph0)[k]? = some q → va_at (dC, dI) vwCl q H) h_44 (pb_44 hK hP)
    have h_46 : ∀ k : Nat, k < 46 → (fun k : Nat => ∀ q, (toW (rho gx gm) (clA ax) ph0)[k]? = some q → va_at (dC, dI) vwCl q H) k := lt_s (p := fun k : Nat => ∀ q, (toW (rho gx gm) (clA ax) ph0)[k]? = some q → va_at (dC, dI) vwCl q H) h_45 (pb_45 hK hP)
    have h_47 : ∀ k : Nat, k < 47 → (fun k : Nat => ∀ q, (toW (rho gx gm) (clA ax) ph0)[k]? = some q → va_at (dC, dI) vwCl q H) k := lt_s (p := fun k : Nat => ∀ q, (toW (rho gx gm) (clA ax) ph0)[k]? = some q → va_at (dC, dI) vwCl q H) h_46 (pb_46 hK hP)
    have h_48 : ∀ k : Nat, k < 48 → (fun k : Nat => ∀ q, (toW (rho gx gm) (clA ax) ph0)[k]? = some q → va_at (dC, dI) vwCl q H) k := lt_s (p := fun k : Nat => ∀ q, (toW (rho gx gm) (clA ax) ph0)[k]? = some q → va_at (dC, dI) vwCl q H) h_47 (pb_47 hK hP)
    have h_49 : ∀ k : Nat, k < 49 → (fun k : Nat => ∀ q, (toW (rho gx gm) (clA ax) ph0)[k]? = some q → va_at (dC, dI) vwCl q H) k := lt_s (p := fun k : Nat => ∀ q, (toW (rho gx gm) (clA ax) ph0)[k]? = some q → va_at (dC, dI) vwCl q H) h_48 (pb_48 hK hP)
    have h_50 : ∀ k : Nat, k < 50 → (fun k : Nat => ∀ q, (toW (rho gx gm) (clA ax) ph0)[k]? = some q → va_at (dC, dI) vwCl q H) k := lt_s (p := fun k : Nat => ∀ q, (toW (rho gx gm) (clA ax) ph0)[k]? = some q → va_at (dC, dI) vwCl q H) h_49 (pb_49 hK hP)
    have h_51 : ∀ k : Nat, k < 51 → (fun k : Nat => ∀ q, (toW (rho gx gm) (clA ax) ph0)[k]? = some q → va_at (dC, dI) vwCl q H) k := lt_s (p := fun k : Nat => ∀ q, (toW (rho gx gm) (clA ax) ph0)[k]? = some q → va_at (dC, dI) vwCl q H) h_50 (pb_50 hK hP)
    have h_52 : ∀ k : Nat, k < 52 → (fun k : Nat => ∀ q, (toW (rho gx gm) (clA ax) ph0)[k]? = some q → va_at (dC, dI) vwCl q H) k := lt_s (p := fun k : Nat => ∀ q, (toW (rho gx gm) (clA ax) ph0)[k]? = some q → va_at (dC, dI) vwCl q H) h_51 (pb_51 hK hP)
    have h_53 : ∀ k : Nat, k < 53 → (fun k : Nat => ∀ q, (toW (rho gx gm) (clA ax) ph0)[k]? = some q → va_at (dC, dI) vwCl q H) k := lt_s (p := fun k : Nat => ∀ q, (toW (rho gx gm) (clA ax) ph0)[k]? = some q → va_at (dC, dI) vwCl q H) h_52 (pb_52 hK hP)
    have h_54 : ∀ k : Nat, k < 54 → (fun k : Nat => ∀ q, (toW (rho gx gm) (clA ax) ph0)[k]? = some q → va_at (dC, dI) vwCl q H) k := lt_s (p := fun k : Nat => ∀ q, (toW (rho gx gm) (clA ax) ph0)[k]? = some q → va_at (dC, dI) vwCl q H) h_53 (pb_53 hK hP)
    have h_55 : ∀ k : Nat, k < 55 → (fun k : Nat => ∀ q, (toW (rho gx gm) (clA ax) ph0)[k]? = some q → va_at (dC, dI) vwCl q H) k := lt_s (p := fun k : Nat => ∀ q, (toW (rho gx gm) (clA ax) ph0)[k]? = some q → va_at (dC, dI) vwCl q H) h_54 (pb_54 hK hP)
    have h_56 : ∀ k : Nat, k < 56 → (fun k : Nat => ∀ q, (toW (rho gx gm) (clA ax) ph0)[k]? = some q → va_at (dC, dI) vwCl q H) k := lt_s (p := fun k : Nat => ∀ q, (toW (rho gx gm) (clA ax) ph0)[k]? = some q → va_at (dC, dI) vwCl q H) h_55 (pb_55 hK hP)
    have h_57 : ∀ k : Nat, k < 57 → (fun k : Nat => ∀ q, (toW (rho gx gm) (clA ax) ph0)[k]? = some q → va_at (dC, dI) vwCl q H) k := lt_s (p := fun k : Nat => ∀ q, (toW (rho gx gm) (clA ax) ph0)[k]? = some q → va_at (dC, dI) vwCl q H) h_56 (pb_56 hK hP)
    have h_58 : ∀ k : Nat, k < 58 → (fun k : Nat => ∀ q, (toW (rho gx gm) (clA ax) ph0)[k]? = some q → va_at (dC, dI) vwCl q H) k := lt_s (p := fun k : Nat => ∀ q, (toW (rho gx gm) (clA ax) ph0)[k]? = some q → va_at (dC, dI) vwCl q H) h_57 (pb_57 hK hP)
    have h_59 : ∀ k : Nat, k < 59 → (fun k : Nat => ∀ q, (toW (rho gx gm) (clA ax) ph0)[k]? = some q → va_at (dC, dI) vwCl q H) k := lt_s (p := fun k : Nat => ∀ q, (toW (rho gx gm) (clA ax) ph0)[k]? = some q → va_at (dC, dI) vwCl q H) h_58 (pb_58 hK hP)
    have h_60 : ∀ k : Nat, k < 60 → (fun k : Nat => ∀ q, (toW (rho gx gm) (clA ax) ph0)[k]? = some q → va_at (dC, dI) vwCl q H) k := lt_s (p := fun k : Nat => ∀ q, (toW (rho gx gm) (clA ax) ph0)[k]? = some q → va_at (dC, dI) vwCl q H) h_59 (pb_59 hK hP)
    have h_61 : ∀ k : Nat, k < 61 → (fun k : Nat => ∀ q, (toW (rho gx gm) (clA ax) ph0)[k]? = some q → va_at (dC, dI) vwCl q H) k := lt_s (p := fun k : Nat => ∀ q, (toW (rho gx gm) (clA ax) ph0)[k]? = some q → va_at (dC, dI) vwCl q H) h_60 (pb_60 hK hP)
    have h_62 : ∀ k : Nat, k < 62 → (fun k : Nat => ∀ q, (toW (rho gx gm) (clA ax) ph0)[k]? = some q → va_at (dC, dI) vwCl q H) k := lt_s (p := fun k : Nat => ∀ q, (toW (rho gx gm) (clA ax) ph0)[k]? = some q → va_at (dC, dI) vwCl q H) h_61 (pb_61 hK hP)
    have h_63 : ∀ k : Nat, k < 63 → (fun k : Nat => ∀ q, (toW (rho gx gm) (clA ax) ph0)[k]? = some q → va_at (dC, dI) vwCl q H) k := lt_s (p := fun k : Nat => ∀ q, (toW (rho gx gm) (clA ax) ph0)[k]? = some q → va_at (dC, dI) vwCl q H) h_62 (pb_62 hK hP)
    have h_64 : ∀ k : Nat, k < 64 → (fun k : Nat => ∀ q, (toW (rho gx gm) (clA ax) ph0)[k]? = some q → va_at (dC, dI) vwCl q H) k := lt_s (p := fun k : Nat => ∀ q, (toW (rho gx gm) (clA ax) ph0)[k]? = some q → va_at (dC, dI) vwCl q H) h_63 (pb_63 hK hP)
    have h_65 : ∀ k : Nat, k < 65 → (fun k : Nat => ∀ q, (toW (rho gx gm) (clA ax) ph0)[k]? = some q → va_at (dC, dI) vwCl q H) k := lt_s (p := fun k : Nat => ∀ q, (toW (rho gx gm) (clA ax) ph0)[k]? = some q → va_at (dC, dI) vwCl q H) h_64 (pb_64 hK hP)
    have h_66 : ∀ k : Nat, k < 66 → (fun k : Nat => ∀ q, (toW (rho gx gm) (clA ax) ph0)[k]? = some q → va_at (dC, dI) vwCl q H) k := lt_s (p := fun k : Nat => ∀ q, (toW (rho gx gm) (clA ax) ph0)[k]? = some q → va_at (dC, dI) vwCl q H) h_65 (pb_65 hK hP)
    have h_67 : ∀ k : Nat, k < 67 → (fun k : Nat => ∀ q, (toW (rho gx gm) (clA ax) ph0)[k]? = some q → va_at (dC, dI) vwCl q H) k := lt_s (p := fun k : Nat => ∀ q, (toW (rho gx gm) (clA ax) ph0)[k]? = some q → va_at (dC, dI) vwCl q H) h_66 (pb_66 hK hP)
    have h_68 : ∀ k : Nat, k < 68 → (fun k : Nat => ∀ q, (toW (rho gx gm) (clA ax) ph0)[k]? = some q → va_at (dC, dI) vwCl q H) k := lt_s (p := fun k : Nat => ∀ q, (toW (rho gx gm) (clA ax) ph0)[k]? = some q → va_at (dC, dI) vwCl q H) h_67 (pb_67 hK hP)
    have h_69 : ∀ k : Nat, k < 69 → (fun k : Nat => ∀ q, (toW (rho gx gm) (clA ax) ph0)[k]? = some q → va_at (dC, dI) vwCl q H) k := lt_s (p := fun k : Nat => ∀ q, (toW (rho gx gm) (clA ax) ph0)[k]? = some q → va_at (dC, dI) vwCl q H) h_68 (pb_68 hK hP)
    have h_70 : ∀ k : Nat, k < 70 → (fun k : Nat => ∀ q, (toW (rho gx gm) (clA ax) ph0)[k]? = some q → va_at (dC, dI) vwCl q H) k := lt_s (p := fun k : Nat => ∀ q, (toW (rho gx gm) (clA ax) ph0)[k]? = some q → va_at (dC, dI) vwCl q H) h_69 (pb_69 hK hP)
    have h_71 : ∀ k : Nat, k < 71 → (fun k : Nat => ∀ q, (toW (rho gx gm) (clA ax) ph0)[k]? = some q → va_at (dC, dI) vwCl q H) k := lt_s (p := fun k : Nat => ∀ q, (toW (rho gx gm) (clA ax) ph0)[k]? = some q → va_at (dC, dI) vwCl q H) h_70 (pb_70 hK hP)
    have h_72 : ∀ k : Nat, k < 72 → (fun k : Nat => ∀ q, (toW (rho gx gm) (clA ax) ph0)[k]? = some q → va_at (dC, dI) vwCl q H) k := lt_s (p := fun k : Nat => ∀ q, (toW (rho gx gm) (clA ax) ph0)[k]? = some q → va_at (dC, dI) vwCl q H) h_71 (pb_71 hK hP)
    have h_73 : ∀ k : Nat, k < 73 → (fun k : Nat => ∀ q, (toW (rho gx gm) (clA ax) ph0)[k]? = some q → va_at (dC, dI) vwCl q H) k := lt_s (p := fun k : Nat => ∀ q, (toW (rho gx gm) (clA ax) ph0)[k]? = some q → va_at (dC, dI) vwCl q H) h_72 (pb_72 hK hP)
    have h_74 : ∀ k : Nat, k < 74 → (fun k : Nat => ∀ q, (toW (rho gx gm) (clA ax) ph0)[k]? = some q → va_at (dC, dI) vwCl q H) k := lt_s (p := fun k : Nat => ∀ q, (toW (rho gx gm) (clA ax) ph0)[k]? = some q → va_at (dC, dI) vwCl q H) h_73 (pb_73 hK hP)
    have h_75 : ∀ k : Nat, k < 75 → (fun k : Nat => ∀ q, (toW (rho gx gm) (clA ax) ph0)[k]? = some q → va_at (dC, dI) vwCl q H) k := lt_s (p := fun k : Nat => ∀ q, (toW (rho gx gm) (clA ax) ph0)[k]? = some q → va_at (dC, dI) vwCl q H) h_74 (pb_74 hK hP)
    have h_76 : ∀ k : Nat, k < 76 → (fun k : Nat => ∀ q, (toW (rho gx gm) (clA ax) ph0)[k]? = some q → va_at (dC, dI) vwCl q H) k := lt_s (p := fun k : Nat => ∀ q, (toW (rho gx gm) (clA ax) ph0)[k]? = some q → va_at (dC, dI) vwCl q H) h_75 (pb_75 hK hP)
    have h_77 : ∀ k : Nat, k < 77 → (fun k : Nat => ∀ q, (toW (rho gx gm) (clA ax) ph0)[k]? = some q → va_at (dC, dI) vwCl q H) k := lt_s (p := fun k : Nat => ∀ q, (toW (rho gx gm) (clA ax) ph0)[k]? = some q → va_at (dC, dI) vwCl q H) h_76 (pb_76 hK hP)
    have h_78 : ∀ k : Nat, k < 78 → (fun k : Nat => ∀ q, (toW (rho gx gm) (clA ax) ph0)[k]? = some q → va_at (dC, dI) vwCl q H) k := lt_s (p := fun k : Nat => ∀ q, (toW (rho gx gm) (clA ax) ph0)[k]? = some q → va_at (dC, dI) vwCl q H) h_77 (pb_77 hK hP)
    have h_79 : ∀ k : Nat, k < 79 → (fun k : Nat => ∀ q, (toW (rho gx gm) (clA ax) ph0)[k]? = some q → va_at (dC, dI) vwCl q H) k := lt_s (p := fun k : Nat => ∀ q, (toW (rho gx gm) (clA ax) ph0)[k]? = some q → va_at (dC, dI) vwCl q H) h_78 (pb_78 hK hP)
    have h_80 : ∀ k : Nat, k < 80 → (fun k : Nat => ∀ q, (toW (rho gx gm) (clA ax) ph0)[k]? = some q → va_at (dC, dI) vwCl q H) k := lt_s (p := fun k : Nat => ∀ q, (toW (rho gx gm) (clA ax) ph0)[k]? = some q → va_at (dC, dI) vwCl q H) h_79 (pb_79 hK hP)
    have h_81 : ∀ k : Nat, k < 81 → (fun k : Nat => ∀ q, (toW (rho gx gm) (clA ax) ph0)[k]? = some q → va_at (dC, dI) vwCl q H) k := lt_s (p := fun k : Nat => ∀ q, (toW (rho gx gm) (clA ax) ph0)[k]? = some q → va_at (dC, dI) vwCl q H) h_80 (pb_80 hK hP)
    have h_82 : ∀ k : Nat, k < 82 → (fun k : Nat => ∀ q, (toW (rho gx gm) (clA ax) ph0)[k]? = some q → va_at (dC, dI) vwCl q H) k := lt_s (p := fun k : Nat => ∀ q, (toW (rho gx gm) (clA ax) ph0)[k]? = some q → va_at (dC, dI) vwCl q H) h_81 (pb_81 hK hP)
    have h_83 : ∀ k : Nat, k < 83 → (fun k : Nat => ∀ q, (toW (rho gx gm) (clA ax) ph0)[k]? = some q → va_at (dC, dI) vwCl q H) k := lt_s (p := fun k : Nat => ∀ q, (toW (rho gx gm) (clA ax) ph0)[k]? = some q → va_at (dC, dI) vwCl q H) h_82 (pb_82 hK hP)
    have h_84 : ∀ k : Nat, k < 84 → (fun k : Nat => ∀ q, (toW (rho gx gm) (clA ax) ph0)[k]? = some q → va_at (dC, dI) vwCl q H) k := lt_s (p := fun k : Nat => ∀ q, (toW (rho gx gm) (clA ax) ph0)[k]? = some q → va_at (dC, dI) vwCl q H) h_83 (pb_83 hK hP)
    have h_85 : ∀ k : Nat, k < 85 → (fun k : Nat => ∀ q, (toW (rho gx gm) (clA ax) ph0)[k]? = some q → va_at (dC, dI) vwCl q H) k := lt_s (p := fun k : Nat => ∀ q, (toW (rho gx gm) (clA ax) ph0)[k]? = some q → va_at (dC, dI) vwCl q H) h_84 (pb_84 hK hP)
    have h_86 : ∀ k : Nat, k < 86 → (fun k : Nat => ∀ q, (toW (rho gx gm) (clA ax) ph0)[k]? = some q → va_at (dC, dI) vwCl q H) k := lt_s (p := fun k : Nat => ∀ q, (toW (rho gx gm) (clA ax) ph0)[k]? = some q → va_at (dC, dI) vwCl q H) h_85 (pb_85 hK hP)
    have h_87 : ∀ k : Nat, k < 87 → (fun k : Nat => ∀ q, (toW (rho gx gm) (clA ax) ph0)[k]? = some q → va_at (dC, dI) vwCl q H) k := lt_s (p := fun k : Nat => ∀ q, (toW (rho gx gm) (clA ax) ph0)[k]? = some q → va_at (dC, dI) vwCl q H) h_86 (pb_86 hK hP)
    have h_88 : ∀ k : Nat, k < 88 → (fun k : Nat => ∀ q, (toW (rho gx gm) (clA ax) ph0)[k]? = some q → va_at (dC, dI) vwCl q H) k := lt_s (p := fun k : Nat => ∀ q, (toW (rho gx gm) (clA ax) ph0)[k]? = some q → va_at (dC, dI) vwCl q H) h_87 (pb_87 hK hP)
    have h_89 : ∀ k : Nat, k < 89 → (fun k : Nat => ∀ q, (toW (rho gx gm) (clA ax) ph0)[k]? = some q → va_at (dC, dI) vwCl q H) k := lt_s (p := fun k : Nat => ∀ q, (toW (rho gx gm) (clA ax) ph0)[k]? = some q → va_at (dC, dI) vwCl q H) h_88 (pb_88 hK hP)
    have h_90 : ∀ k : Nat, k < 90 → (fun k : Nat => ∀ q, (toW (rho gx gm) (clA ax) ph0)[k]? = some q → va_at (dC, dI) vwCl q H) k := lt_s (p := fun k : Nat => ∀ q, (toW (rho gx gm) (clA ax) ph0)[k]? = some q → va_at (dC, dI) vwCl q H) h_89 (pb_89 hK hP)
    have h_91 : ∀ k : Nat, k < 91 → (fun k : Nat => ∀ q, (toW (rho gx gm) (clA ax) ph0)[k]? = some q → va_at (dC, dI) vwCl q H) k := lt_s (p := fun k : Nat => ∀ q, (toW (rho gx gm) (clA ax) ph0)[k]? = some q → va_at (dC, dI) vwCl q H) h_90 (pb_90 hK hP)
    have h_92 : ∀ k : Nat, k < 92 → (fun k : Nat => ∀ q, (toW (rho gx gm) (clA ax) ph0)[k]? = some q → va_at (dC, dI) vwCl q H) k := lt_s (p := fun k : Nat => ∀ q, (toW (rho gx gm) (clA ax) ph0)[k]? = some q → va_at (dC, dI) vwCl q H) h_91 (pb_91 hK hP)
    have h_93 : ∀ k : Nat, k < 93 → (fun k : Nat => ∀ q, (toW (rho gx gm) (clA ax) ph0)[k]? = some q → va_at (dC, dI) vwCl q H) k := lt_s (p := fun k : Nat => ∀ q, (toW (rho gx gm) (clA ax) ph0)[k]? = some q → va_at (dC, dI) vwCl q H) h_92 (pb_92 hK hP)
    have h_94 : ∀ k : Nat, k < 94 → (fun k : Nat => ∀ q, (toW (rho gx gm) (clA ax) ph0)[k]? = some q → va_at (dC, dI) vwCl q H) k := lt_s (p := fun k : Nat => ∀ q, (toW (rho gx gm) (clA ax) ph0)[k]? = some q → va_at (dC, dI) vwCl q H) h_93 (pb_93 hK hP)
    have h_95 : ∀ k : Nat, k < 95 → (fun k : Nat => ∀ q, (toW (rho gx gm) (clA ax) ph0)[k]? = some q → va_at (dC, dI) vwCl q H) k := lt_s (p := fun k : Nat => ∀ q, (toW (rho gx gm) (clA ax) ph0)[k]? = some q → va_at (dC, dI) vwCl q H) h_94 (pb_94 hK hP)
    have h_96 : ∀ k : Nat, k < 96 → (fun k : Nat => ∀ q, (toW (rho gx gm) (clA ax) ph0)[k]? = some q → va_at (dC, dI) vwCl q H) k := lt_s (p := fun k : Nat => ∀ q, (toW (rho gx gm) (clA ax) ph0)[k]? = some q → va_at (dC, dI) vwCl q H) h_95 (pb_95 hK hP)
    have h_97 : ∀ k : Nat, k < 97 → (fun k : Nat => ∀ q, (toW (rho gx gm) (clA ax) ph0)[k]? = some q → va_at (dC, dI) vwCl q H) k := lt_s (p := fun k : Nat => ∀ q, (toW (rho gx gm) (clA ax) ph0)[k]? = some q → va_at (dC, dI) vwCl q H) h_96 (pb_96 hK hP)
    have h_98 : ∀ k : Nat, k < 98 → (fun k : Nat => ∀ q, (toW (rho gx gm) (clA ax) ph0)[k]? = some q → va_at (dC, dI) vwCl q H) k := lt_s (p := fun k : Nat => ∀ q, (toW (rho gx gm) (clA ax) ph0)[k]? = some q → va_at (dC, dI) vwCl q H) h_97 (pb_97 hK hP)
    have h_99 : ∀ k : Nat, k < 99 → (fun k : Nat => ∀ q, (toW (rho gx gm) (clA ax) ph0)[k]? = some q → va_at (dC, dI) vwCl q H) k := lt_s (p := fun k : Nat => ∀ q, (toW (rho gx gm) (clA ax) ph0)[k]? = some q → va_at (dC, dI) vwCl q H) h_98 (pb_98 hK hP)
    have h_100 : ∀ k : Nat, k < 100 → (fun k : Nat => ∀ q, (toW (rho gx gm) (clA ax) ph0)[k]? = some q → va_at (dC, dI) vwCl q H) k := lt_s (p := fun k : Nat => ∀ q, (toW (rho gx gm) (clA ax) ph0)[k]? = some q → va_at (dC, dI) vwCl q H) h_99 (pb_99 hK hP)
    have h_101 : ∀ k : Nat, k < 101 → (fun k : Nat => ∀ q, (toW (rho gx gm) (clA ax) ph0)[k]? = some q → va_at (dC, dI) vwCl q H) k := lt_s (p := fun k : Nat => ∀ q, (toW (rho gx gm) (clA ax) ph0)[k]? = some q → va_at (dC, dI) vwCl q H) h_100 (pb_100 hK hP)
    have h_102 : ∀ k : Nat, k < 102 → (fun k : Nat => ∀ q, (toW (rho gx gm) (clA ax) ph0)[k]? = some q → va_at (dC, dI) vwCl q H) k := lt_s (p := fun k : Nat => ∀ q, (toW (rho gx gm) (clA ax) ph0)[k]? = some q → va_at (dC, dI) vwCl q H) h_101 (pb_101 hK hP)
    have h_103 : ∀ k : Nat, k < 103 → (fun k : Nat => ∀ q, (toW (rho gx gm) (clA ax) ph0)[k]? = some q → va_at (dC, dI) vwCl q H) k := lt_s (p := fun k : Nat => ∀ q, (toW (rho gx gm) (clA ax) ph0)[k]? = some q → va_at (dC, dI) vwCl q H) h_102 (pb_102 hK hP)
    have h_104 : ∀ k : Nat, k < 104 → (fun k : Nat => ∀ q, (toW (rho gx gm) (clA ax) ph0)[k]? = some q → va_at (dC, dI) vwCl q H) k := lt_s (p := fun k : Nat => ∀ q, (toW (rho gx gm) (clA ax) ph0)[k]? = some q → va_at (dC, dI) vwCl q H) h_103 (pb_103 hK hP)
    have h_105 : ∀ k : Nat, k < 105 → (fun k : Nat => ∀ q, (toW (rho gx gm) (clA ax) ph0)[k]? = some q → va_at (dC, dI) vwCl q H) k := lt_s (p := fun k : Nat => ∀ q, (toW (rho gx gm) (clA ax) ph0)[k]? = some q → va_at (dC, dI) vwCl q H) h_104 (pb_104 hK hP)
    have h_106 : ∀ k : Nat, k < 106 → (fun k : Nat => ∀ q, (toW (rho gx gm) (clA ax) ph0)[k]? = some q → va_at (dC, dI) vwCl q H) k := lt_s (p := fun k : Nat => ∀ q, (toW (rho gx gm) (clA ax) ph0)[k]? = some q → va_at (dC, dI) vwCl q H) h_105 (pb_105 hK hP)
    have h_107 : ∀ k : Nat, k < 107 → (fun k : Nat => ∀ q, (toW (rho gx gm) (clA ax) ph0)[k]? = some q → va_at (dC, dI) vwCl q H) k := lt_s (p := fun k : Nat => ∀ q, (toW (rho gx gm) (clA ax) ph0)[k]? = some q → va_at (dC, dI) vwCl q H) h_106 (pb_106 hK hP)
    have h_108 : ∀ k : Nat, k < 108 → (fun k : Nat => ∀ q, (toW (rho gx gm) (clA ax) ph0)[k]? = some q → va_at (dC, dI) vwCl q H) k := lt_s (p := fun k : Nat => ∀ q, (toW (rho gx gm) (clA ax) ph0)[k]? = some q → va_at (dC, dI) vwCl q H) h_107 (pb_107 hK hP)
    have h_109 : ∀ k : Nat, k < 109 → (fun k : Nat => ∀ q, (toW (rho gx gm) (clA ax) ph0)[k]? = some q → va_at (dC, dI) vwCl q H) k := lt_s (p := fun k : Nat => ∀ q, (toW (rho gx gm) (clA ax) ph0)[k]? = some q → va_at (dC, dI) vwCl q H) h_108 (pb_108 hK hP)
    have h_110 : ∀ k : Nat, k < 110 → (fun k : Nat => ∀ q, (toW (rho gx gm) (clA ax) ph0)[k]? = some q → va_at (dC, dI) vwCl q H) k := lt_s (p := fun k : Nat => ∀ q, (toW (rho gx gm) (clA ax) ph0)[k]? = some q → va_at (dC, dI) vwCl q H) h_109 (pb_109 hK hP)
    have h_111 : ∀ k : Nat, k < 111 → (fun k : Nat => ∀ q, (toW (rho gx gm) (clA ax) ph0)[k]? = some q → va_at (dC, dI) vwCl q H) k := lt_s (p := fun k : Nat => ∀ q, (toW (rho gx gm) (clA ax) ph0)[k]? = some q → va_at (dC, dI) vwCl q H) h_110 (pb_110 hK hP)
    have h_112 : ∀ k : Nat, k < 112 → (fun k : Nat => ∀ q, (toW (rho gx gm) (clA ax) ph0)[k]? = some q → va_at (dC, dI) vwCl q H) k := lt_s (p := fun k : Nat => ∀ q, (toW (rho gx gm) (clA ax) ph0)[k]? = some q → va_at (dC, dI) vwCl q H) h_111 (pb_111 hK hP)
    have h_113 : ∀ k : Nat, k < 113 → (fun k : Nat => ∀ q, (toW (rho gx gm) (clA ax) ph0)[k]? = some q → va_at (dC, dI) vwCl q H) k := lt_s (p := fun k : Nat => ∀ q, (toW (rho gx gm) (clA ax) ph0)[k]? = some q → va_at (dC, dI) vwCl q H) h_112 (pb_112 hK hP)
    have h_114 : ∀ k : Nat, k < 114 → (fun k : Nat => ∀ q, (toW (rho gx gm) (clA ax) ph0)[k]? = some q → va_at (dC, dI) vwCl q H) k := lt_s (p := fun k : Nat => ∀ q, (toW (rho gx gm) (clA ax) ph0)[k]? = some q → va_at (dC, dI) vwCl q H) h_113 (pb_113 hK hP)
    have h_115 : ∀ k : Nat, k < 115 → (fun k : Nat => ∀ q, (toW (rho gx gm) (clA ax) ph0)[k]? = some q → va_at (dC, dI) vwCl q H) k := lt_s (p := fun k : Nat => ∀ q, (toW (rho gx gm) (clA ax) ph0)[k]? = some q → va_at (dC, dI) vwCl q H) h_114 (pb_114 hK hP)
    have h_116 : ∀ k : Nat, k < 116 → (fun k : Nat => ∀ q, (toW (rho gx gm) (clA ax) ph0)[k]? = some q → va_at (dC, dI) vwCl q H) k := lt_s (p := fun k : Nat => ∀ q, (toW (rho gx gm) (clA ax) ph0)[k]? = some q → va_at (dC, dI) vwCl q H) h_115 (pb_115 hK hP)
    have h_117 : ∀ k : Nat, k < 117 → (fun k : Nat => ∀ q, (toW (rho gx gm) (clA ax) ph0)[k]? = some q → va_at (dC, dI) vwCl q H) k := lt_s (p := fun k : Nat => ∀ q, (toW (rho gx gm) (clA ax) ph0)[k]? = some q → va_at (dC, dI) vwCl q H) h_116 (pb_116 hK hP)
    have h_118 : ∀ k : Nat, k < 118 → (fun k : Nat => ∀ q, (toW (rho gx gm) (clA ax) ph0)[k]? = some q → va_at (dC, dI) vwCl q H) k := lt_s (p := fun k : Nat => ∀ q, (toW (rho gx gm) (clA ax) ph0)[k]? = some q → va_at (dC, dI) vwCl q H) h_117 (pb_117 hK hP)
    have h_119 : ∀ k : Nat, k < 119 → (fun k : Nat => ∀ q, (toW (rho gx gm) (clA ax) ph0)[k]? = some q → va_at (dC, dI) vwCl q H) k := lt_s (p := fun k : Nat => ∀ q, (toW (rho gx gm) (clA ax) ph0)[k]? = some q → va_at (dC, dI) vwCl q H) h_118 (pb_118 hK hP)
    have h_120 : ∀ k : Nat, k < 120 → (fun k : Nat => ∀ q, (toW (rho gx gm) (clA ax) ph0)[k]? = some q → va_at (dC, dI) vwCl q H) k := lt_s (p := fun k : Nat => ∀ q, (toW (rho gx gm) (clA ax) ph0)[k]? = some q → va_at (dC, dI) vwCl q H) h_119 (pb_119 hK hP)
    have h_121 : ∀ k : Nat, k < 121 → (fun k : Nat => ∀ q, (toW (rho gx gm) (clA ax) ph0)[k]? = some q → va_at (dC, dI) vwCl q H) k := lt_s (p := fun k : Nat => ∀ q, (toW (rho gx gm) (clA ax) ph0)[k]? = some q → va_at (dC, dI) vwCl q H) h_120 (pb_120 hK hP)
    have h_122 : ∀ k : Nat, k < 122 → (fun k : Nat => ∀ q, (toW (rho gx gm) (clA ax) ph0)[k]? = some q → va_at (dC, dI) vwCl q H) k := lt_s (p := fun k : Nat => ∀ q, (toW (rho gx gm) (clA ax) ph0)[k]? = some q → va_at (dC, dI) vwCl q H) h_121 (pb_121 hK hP)
    have h_123 : ∀ k : Nat, k < 123 → (fun k : Nat => ∀ q, (toW (rho gx gm) (clA ax) ph0)[k]? = some q → va_at (dC, dI) vwCl q H) k := lt_s (p := fun k : Nat => ∀ q, (toW (rho gx gm) (clA ax) ph0)[k]? = some q → va_at (dC, dI) vwCl q H) h_122 (pb_122 hK hP)
    have h_124 : ∀ k : Nat, k < 124 → (fun k : Nat => ∀ q, (toW (rho gx gm) (clA ax) ph0)[k]? = some q → va_at (dC, dI) vwCl q H) k := lt_s (p := fun k : Nat => ∀ q, (toW (rho gx gm) (clA ax) ph0)[k]? = some q → va_at (dC, dI) vwCl q H) h_123 (pb_123 hK hP)
    have h_125 : ∀ k : Nat, k < 125 → (fun k : Nat => ∀ q, (toW (rho gx gm) (clA ax) ph0)[k]? = some q → va_at (dC, dI) vwCl q H) k := lt_s (p := fun k : Nat => ∀ q, (toW (rho gx gm) (clA ax) ph0)[k]? = some q → va_at (dC, dI) vwCl q H) h_124 (pb_124 hK hP)
    have h_126 : ∀ k : Nat, k < 126 → (fun k : Nat => ∀ q, (toW (rho gx gm) (clA ax) ph0)[k]? = some q → va_at (dC, dI) vwCl q H) k := lt_s (p := fun k : Nat => ∀ q, (toW (rho gx gm) (clA ax) ph0)[k]? = some q → va_at (dC, dI) vwCl q H) h_125 (pb_125 hK hP)
    have h_127 : ∀ k : Nat, k < 127 → (fun k : Nat => ∀ q, (toW (rho gx gm) (clA ax) ph0)[k]? = some q → va_at (dC, dI) vwCl q H) k := lt_s (p := fun k : Nat => ∀ q, (toW (rho gx gm) (clA ax) ph0)[k]? = some q → va_at (dC, dI) vwCl q H) h_126 (pb_126 hK hP)
    have h_128 : ∀ k : Nat, k < 128 → (fun k : Nat => ∀ q, (toW (rho gx gm) (clA ax) ph0)[k]? = some q → va_at (dC, dI) vwCl q H) k := lt_s (p := fun k : Nat => ∀ q, (toW (rho gx gm) (clA ax) ph0)[k]? = some q → va_at (dC, dI) vwCl q H) h_127 (pb_127 hK hP)
    have h_129 : ∀ k : Nat, k < 129 → (fun k : Nat => ∀ q, (toW (rho gx gm) (clA ax) ph0)[k]? = some q → va_at (dC, dI) vwCl q H) k := lt_s (p := fun k : Nat => ∀ q, (toW (rho gx gm) (clA ax) ph0)[k]? = some q → va_at (dC, dI) vwCl q H) h_128 (pb_128 hK hP)
    have h_130 : ∀ k : Nat, k < 130 → (fun k : Nat => ∀ q, (toW (rho gx gm) (clA ax) ph0)[k]? = some q → va_at (dC, dI) vwCl q H) k := lt_s (p := fun k : Nat => ∀ q, (toW (rho gx gm) (clA ax) ph0)[k]? = some q → va_at (dC, dI) vwCl q H) h_129 (pb_129 hK hP)
    have h_131 : ∀ k : Nat, k < 131 → (fun k : Nat => ∀ q, (toW (rho gx gm) (clA ax) ph0)[k]? = some q → va_at (dC, dI) vwCl q H) k := lt_s (p := fun k : Nat => ∀ q, (toW (rho gx gm) (clA ax) ph0)[k]? = some q → va_at (dC, dI) vwCl q H) h_130 (pb_130 hK hP)
    rcases Nat.lt_or_ge k 131 with c | c
    · exact h_131 k c q hq
    · rw [List.getElem?_eq_none (by rw [toW_len]; exact c)] at hq
      cases hq
  · have h_0 : ∀ k : Nat, k < 0 → (fun k : Nat => ∀ q, (toW (rho gx gm) (clA ax) ph0)[k]? = some q → ∃ q', (wX gx ax ++ wM gm am)[k]? = some q' ∧ q'.1 = q.1) k := lt_0
    have h_1 : ∀ k : Nat, k < 1 → (fun k : Nat => ∀ q, (toW (rho gx gm) (clA ax) ph0)[k]? = some q → ∃ q', (wX gx ax ++ wM gm am)[k]? = some q' ∧ q'.1 = q.1) k := lt_s (p := fun k : Nat => ∀ q, (toW (rho gx gm) (clA ax) ph0)[k]? = some q → ∃ q', (wX gx ax ++ wM gm am)[k]? = some q' ∧ q'.1 = q.1) h_0 fb_0
    have h_2 : ∀ k : Nat, k < 2 → (fun k : Nat => ∀ q, (toW (rho gx gm) (clA ax) ph0)[k]? = some q → ∃ q', (wX gx ax ++ wM gm am)[k]? = some q' ∧ q'.1 = q.1) k := lt_s (p := fun k : Nat => ∀ q, (toW (rho gx gm) (clA ax) ph0)[k]? = some q → ∃ q', (wX gx ax ++ wM gm am)[k]? = some q' ∧ q'.1 = q.1) h_1 fb_1
    have h_3 : ∀ k : Nat, k < 3 → (fun k : Nat => ∀ q, (toW (rho gx gm) (clA ax) ph0)[k]? = some q → ∃ q', (wX gx ax ++ wM gm am)[k]? = some q' ∧ q'.1 = q.1) k := lt_s (p := fun k : Nat => ∀ q, (toW (rho gx gm) (clA ax) ph0)[k]? = some q → ∃ q', (wX gx ax ++ wM gm am)[k]? = some q' ∧ q'.1 = q.1) h_2 fb_2
    have h_4 : ∀ k : Nat, k < 4 → (fun k : Nat => ∀ q, (toW (rho gx gm) (clA ax) ph0)[k]? = some q → ∃ q', (wX gx ax ++ wM gm am)[k]? = some q' ∧ q'.1 = q.1) k := lt_s (p := fun k : Nat => ∀ q, (toW (rho gx gm) (clA ax) ph0)[k]? = some q → ∃ q', (wX gx ax ++ wM gm am)[k]? = some q' ∧ q'.1 = q.1) h_3 fb_3
    have h_5 : ∀ k : Nat, k < 5 → (fun k : Nat => ∀ q, (toW (rho gx gm) (clA ax) ph0)[k]? = some q → ∃ q', (wX gx ax ++ wM gm am)[k]? = some q' ∧ q'.1 = q.1) k := lt_s (p := fun k : Nat => ∀ q, (toW (rho gx gm) (clA ax) ph0)[k]? = some q → ∃ q', (wX gx ax ++ wM gm am)[k]? = some q' ∧ q'.1 = q.1) h_4 fb_4
    have h_6 : ∀ k : Nat, k < 6 → (fun k : Nat => ∀ q, (toW (rho gx gm) (clA ax) ph0)[k]? = some q → ∃ q', (wX gx ax ++ wM gm am)[k]? = some q' ∧ q'.1 = q.1) k := lt_s (p := fun k : Nat => ∀ q, (toW (rho gx gm) (clA ax) ph0)[k]? = some q → ∃ q', (wX gx ax ++ wM gm am)[k]? = some q' ∧ q'.1 = q.1) h_5 fb_5
    have h_7 : ∀ k : Nat, k < 7 → (fun k : Nat => ∀ q, (toW (rho gx gm) (clA ax) ph0)[k]? = some q → ∃ q', (wX gx ax ++ wM gm am)[k]? = some q' ∧ q'.1 = q.1) k := lt_s (p := fun k : Nat => ∀ q, (toW (rho gx gm) (clA ax) ph0)[k]? = some q → ∃ q', (wX gx ax ++ wM gm am)[k]? = some q' ∧ q'.1 = q.1) h_6 fb_6
    have h_8 : ∀ k : Nat, k < 8 → (fun k : Nat => ∀ q, (toW (rho gx gm) (clA ax) ph0)[k]? = some q → ∃ q', (wX gx ax ++ wM gm am)[k]? = some q' ∧ q'.1 = q.1) k := lt_s (p := fun k : Nat => ∀ q, (toW (rho gx gm) (clA ax) ph0)[k]? = some q → ∃ q', (wX gx ax ++ wM gm am)[k]? = some q' ∧ q'.1 = q.1) h_7 fb_7
    have h_9 : ∀ k : Nat, k < 9 → (fun k : Nat => ∀ q, (toW (rho gx gm) (clA ax) ph0)[k]? = some q → ∃ q', (wX gx ax ++ wM gm am)[k]? = some q' ∧ q'.1 = q.1) k := lt_s (p := fun k : Nat => ∀ q, (toW (rho gx gm) (clA ax) ph0)[k]? = some q → ∃ q', (wX gx ax ++ wM gm am)[k]? = some q' ∧ q'.1 = q.1) h_8 fb_8
    have h_10 : ∀ k : Nat, k < 10 → (fun k : Nat => ∀ q, (toW (rho gx gm) (clA ax) ph0)[k]? = some q → ∃ q', (wX gx ax ++ wM gm am)[k]? = some q' ∧ q'.1 = q.1) k := lt_s (p := fun k : Nat => ∀ q, (toW (rho gx gm) (clA ax) ph0)[k]? = some q → ∃ q', (wX gx ax ++ wM gm am)[k]? = some q' ∧ q'.1 = q.1) h_9 fb_9
    have h_11 : ∀ k : Nat, k < 11 → (fun k : Nat => ∀ q, (toW (rho gx gm) (clA ax) ph0)[k]? = some q → ∃ q', (wX gx ax ++ wM gm am)[k]? = some q' ∧ q'.1 = q.1) k := lt_s (p := fun k : Nat => ∀ q, (toW (rho gx gm) (clA ax) ph0)[k]? = some q → ∃ q', (wX gx ax ++ wM gm am)[k]? = some q' ∧ q'.1 = q.1) h_10 fb_10
    have h_12 : ∀ k : Nat, k < 12 → (fun k : Nat => ∀ q, (toW (rho gx gm) (clA ax) ph0)[k]? = some q → ∃ q', (wX gx ax ++ wM gm am)[k]? = some q' ∧ q'.1 = q.1) k := lt_s (p := fun k : Nat => ∀ q, (toW (rho gx gm) (clA ax) ph0)[k]? = some q → ∃ q', (wX gx ax ++ wM gm am)[k]? = some q' ∧ q'.1 = q.1) h_11 fb_11
    have h_13 : ∀ k : Nat, k < 13 → (fun k : Nat => ∀ q, (toW (rho gx gm) (clA ax) ph0)[k]? = some q → ∃ q', (wX gx ax ++ wM gm am)[k]? = some q' ∧ q'.1 = q.1) k := lt_s (p := fun k : Nat => ∀ q, (toW (rho gx gm) (clA ax) ph0)[k]? = some q → ∃ q', (wX gx ax ++ wM gm am)[k]? = some q' ∧ q'.1 = q.1) h_12 fb_12
    have h_14 : ∀ k : Nat, k < 14 → (fun k : Nat => ∀ q, (toW (rho gx gm) (clA ax) ph0)[k]? = some q → ∃ q', (wX gx ax ++ wM gm am)[k]? = some q' ∧ q'.1 = q.1) k := lt_s (p := fun k : Nat => ∀ q, (toW (rho gx gm) (clA ax) ph0)[k]? = some q → ∃ q', (wX gx ax ++ wM gm am)[k]? = some q' ∧ q'.1 = q.1) h_13 fb_13
    have h_15 : ∀ k : Nat, k < 15 → (fun k : Nat => ∀ q, (toW (rho gx gm) (clA ax) ph0)[k]? = some q → ∃ q', (wX gx ax ++ wM gm am)[k]? = some q' ∧ q'.1 = q.1) k := lt_s (p := fun k : Nat => ∀ q, (toW (rho gx gm) (clA ax) ph0)[k]? = some q → ∃ q', (wX gx ax ++ wM gm am)[k]? = some q' ∧ q'.1 = q.1) h_14 fb_14
    have h_16 : ∀ k : Nat, k < 16 → (fun k : Nat => ∀ q, (toW (rho gx gm) (clA ax) ph0)[k]? = some q → ∃ q', (wX gx ax ++ wM gm am)[k]? = some q' ∧ q'.1 = q.1) k := lt_s (p := fun k : Nat => ∀ q, (toW (rho gx gm) (clA ax) ph0)[k]? = some q → ∃ q', (wX gx ax ++ wM gm am)[k]? = some q' ∧ q'.1 = q.1) h_15 fb_15
    have h_17 : ∀ k : Nat, k < 17 → (fun k : Nat => ∀ q, (toW (rho gx gm) (clA ax) ph0)[k]? = some q → ∃ q', (wX gx ax ++ wM gm am)[k]? = some q' ∧ q'.1 = q.1) k := lt_s (p := fun k : Nat => ∀ q, (toW (rho gx gm) (clA ax) ph0)[k]? = some q → ∃ q', (wX gx ax ++ wM gm am)[k]? = some q' ∧ q'.1 = q.1) h_16 fb_16
    have h_18 : ∀ k : Nat, k < 18 → (fun k : Nat => ∀ q, (toW (rho gx gm) (clA ax) ph0)[k]? = some q → ∃ q', (wX gx ax ++ wM gm am)[k]? = some q' ∧ q'.1 = q.1) k := lt_s (p := fun k : Nat => ∀ q, (toW (rho gx gm) (clA ax) ph0)[k]? = some q → ∃ q', (wX gx ax ++ wM gm am)[k]? = some q' ∧ q'.1 = q.1) h_17 fb_17
    have h_19 : ∀ k : Nat, k < 19 → (fun k : Nat => ∀ q, (toW (rho gx gm) (clA ax) ph0)[k]? = some q → ∃ q', (wX gx ax ++ wM gm am)[k]? = some q' ∧ q'.1 = q.1) k := lt_s (p := fun k : Nat => ∀ q, (toW (rho gx gm) (clA ax) ph0)[k]? = some q → ∃ q', (wX gx ax ++ wM gm am)[k]? = some q' ∧ q'.1 = q.1) h_18 fb_18
    have h_20 : ∀ k : Nat, k < 20 → (fun k : Nat => ∀ q, (toW (rho gx gm) (clA ax) ph0)[k]? = some q → ∃ q', (wX gx ax ++ wM gm am)[k]? = some q' ∧ q'.1 = q.1) k := lt_s (p := fun k : Nat => ∀ q, (toW (rho gx gm) (clA ax) ph0)[k]? = some q → ∃ q', (wX gx ax ++ wM gm am)[k]? = some q' ∧ q'.1 = q.1) h_19 fb_19
    have h_21 : ∀ k : Nat, k < 21 → (fun k : Nat => ∀ q, (toW (rho gx gm) (clA ax) ph0)[k]? = some q → ∃ q', (wX gx ax ++ wM gm am)[k]? = some q' ∧ q'.1 = q.1) k := lt_s (p := fun k : Nat => ∀ q, (toW (rho gx gm) (clA ax) ph0)[k]? = some q → ∃ q', (wX gx ax ++ wM gm am)[k]? = some q' ∧ q'.1 = q.1) h_20 fb_20
    have h_22 : ∀ k : Nat, k < 22 → (fun k : Nat => ∀ q, (toW (rho gx gm) (clA ax) ph0)[k]? = some q → ∃ q', (wX gx ax ++ wM gm am)[k]? = some q' ∧ q'.1 = q.1) k := lt_s (p := fun k : Nat => ∀ q, (toW (rho gx gm) (clA ax) ph0)[k]? = some q → ∃ q', (wX gx ax ++ wM gm am)[k]? = some q' ∧ q'.1 = q.1) h_21 fb_21
    have h_23 : ∀ k : Nat, k < 23 → (fun k : Nat => ∀ q, (toW (rho gx gm) (clA ax) ph0)[k]? = some q → ∃ q', (wX gx ax ++ wM gm am)[k]? = some q' ∧ q'.1 = q.1) k := lt_s (p := fun k : Nat => ∀ q, (toW (rho gx gm) (clA ax) ph0)[k]? = some q → ∃ q', (wX gx ax ++ wM gm am)[k]? = some q' ∧ q'.1 = q.1) h_22 fb_22
    have h_24 : ∀ k : Nat, k < 24 → (fun k : Nat => ∀ q, (toW (rho gx gm) (clA ax) ph0)[k]? = some q → ∃ q', (wX gx ax ++ wM gm am)[k]? = some q' ∧ q'.1 = q.1) k := lt_s (p := fun k : Nat => ∀ q, (toW (rho gx gm) (clA ax) ph0)[k]? = some q → ∃ q', (wX gx ax ++ wM gm am)[k]? = some q' ∧ q'.1 = q.1) h_23 fb_23
    have h_25 : ∀ k : Nat, k < 25 → (fun k : Nat => ∀ q, (toW (rho gx gm) (clA ax) ph0)[k]? = some q → ∃ q', (wX gx ax ++ wM gm am)[k]? = some q' ∧ q'.1 = q.1) k := lt_s (p := fun k : Nat => ∀ q, (toW (rho gx gm) (clA ax) ph0)[k]? = some q → ∃ q', (wX gx ax ++ wM gm am)[k]? = some q' ∧ q'.1 = q.1) h_24 fb_24
    have h_26 : ∀ k : Nat, k < 26 → (fun k : Nat => ∀ q, (toW (rho gx gm) (clA ax) ph0)[k]? = some q → ∃ q', (wX gx ax ++ wM gm am)[k]? = some q' ∧ q'.1 = q.1) k := lt_s (p := fun k : Nat => ∀ q, (toW (rho gx gm) (clA ax) ph0)[k]? = some q → ∃ q', (wX gx ax ++ wM gm am)[k]? = some q' ∧ q'.1 = q.1) h_25 fb_25
    have h_27 : ∀ k : Nat, k < 27 → (fun k : Nat => ∀ q, (toW (rho gx gm) (clA ax) ph0)[k]? = some q → ∃ q', (wX gx ax ++ wM gm am)[k]? = some q' ∧ q'.1 = q.1) k := lt_s (p := fun k : Nat => ∀ q, (toW (rho gx gm) (clA ax) ph0)[k]? = some q → ∃ q', (wX gx ax ++ wM gm am)[k]? = some q' ∧ q'.1 = q.1) h_26 fb_26
    have h_28 : ∀ k : Nat, k < 28 → (fun k : Nat => ∀ q, (toW (rho gx gm) (clA ax) ph0)[k]? = some q → ∃ q', (wX gx ax ++ wM gm am)[k]? = some q' ∧ q'.1 = q.1) k := lt_s (p := fun k : Nat => ∀ q, (toW (rho gx gm) (clA ax) ph0)[k]? = some q → ∃ q', (wX gx ax ++ wM gm am)[k]? = some q' ∧ q'.1 = q.1) h_27 fb_27
    have h_29 : ∀ k : Nat, k < 29 → (fun k : Nat => ∀ q, (toW (rho gx gm) (clA ax) ph0)[k]? = some q → ∃ q', (wX gx ax ++ wM gm am)[k]? = some q' ∧ q'.1 = q.1) k := lt_s (p := fun k : Nat => ∀ q, (toW (rho gx gm) (clA ax) ph0)[k]? = some q → ∃ q', (wX gx ax ++ wM gm am)[k]? = some q' ∧ q'.1 = q.1) h_28 fb_28
    have h_30 : ∀ k : Nat, k < 30 → (fun k : Nat => ∀ q, (toW (rho gx gm) (clA ax) ph0)[k]? = some q → ∃ q', (wX gx ax ++ wM gm am)[k]? = some q' ∧ q'.1 = q.1) k := lt_s (p := fun k : Nat => ∀ q, (toW (rho gx gm) (clA ax) ph0)[k]? = some q → ∃ q', (wX gx ax ++ wM gm am)[k]? = some q' ∧ q'.1 = q.1) h_29 fb_29
    have h_31 : ∀ k : Nat, k < 31 → (fun k : Nat => ∀ q, (toW (rho gx gm) (clA ax) ph0)[k]? = some q → ∃ q', (wX gx ax ++ wM gm am)[k]? = some q' ∧ q'.1 = q.1) k := lt_s (p := fun k : Nat => ∀ q, (toW (rho gx gm) (clA ax) ph0)[k]? = some q → ∃ q', (wX gx ax ++ wM gm am)[k]? = some q' ∧ q'.1 = q.1) h_30 fb_30
    have h_32 : ∀ k : Nat, k < 32 → (fun k : Nat => ∀ q, (toW (rho gx gm) (clA ax) ph0)[k]? = some q → ∃ q', (wX gx ax ++ wM gm am)[k]? = some q' ∧ q'.1 = q.1) k := lt_s (p := fun k : Nat => ∀ q, (toW (rho gx gm) (clA ax) ph0)[k]? = some q → ∃ q', (wX gx ax ++ wM gm am)[k]? = some q' ∧ q'.1 = q.1) h_31 fb_31
    have h_33 : ∀ k : Nat, k < 33 → (fun k : Nat => ∀ q, (toW (rho gx gm) (clA ax) ph0)[k]? = some q → ∃ q', (wX gx ax ++ wM gm am)[k]? = some q' ∧ q'.1 = q.1) k := lt_s (p := fun k : Nat => ∀ q, (toW (rho gx gm) (clA ax) ph0)[k]? = some q → ∃ q', (wX gx ax ++ wM gm am)[k]? = some q' ∧ q'.1 = q.1) h_32 fb_32
    have h_34 : ∀ k : Nat, k < 34 → (fun k : Nat => ∀ q, (toW (rho gx gm) (clA ax) ph0)[k]? = some q → ∃ q', (wX gx ax ++ wM gm am)[k]? = some q' ∧ q'.1 = q.1) k := lt_s (p := fun k : Nat => ∀ q, (toW (rho gx gm) (clA ax) ph0)[k]? = some q → ∃ q', (wX gx ax ++ wM gm am)[k]? = some q' ∧ q'.1 = q.1) h_33 fb_33
    have h_35 : ∀ k : Nat, k < 35 → (fun k : Nat => ∀ q, (toW (rho gx gm) (clA ax) ph0)[k]? = some q → ∃ q', (wX gx ax ++ wM gm am)[k]? = some q' ∧ q'.1 = q.1) k := lt_s (p := fun k : Nat => ∀ q, (toW (rho gx gm) (clA ax) ph0)[k]? = some q → ∃ q', (wX gx ax ++ wM gm am)[k]? = some q' ∧ q'.1 = q.1) h_34 fb_34
    have h_36 : ∀ k : Nat, k < 36 → (fun k : Nat => ∀ q, (toW (rho gx gm) (clA ax) ph0)[k]? = some q → ∃ q', (wX gx ax ++ wM gm am)[k]? = some q' ∧ q'.1 = q.1) k := lt_s (p := fun k : Nat => ∀ q, (toW (rho gx gm) (clA ax) ph0)[k]? = some q → ∃ q', (wX gx ax ++ wM gm am)[k]? = some q' ∧ q'.1 = q.1) h_35 fb_35
    have h_37 : ∀ k : Nat, k < 37 → (fun k : Nat => ∀ q, (toW (rho gx gm) (clA ax) ph0)[k]? = some q → ∃ q', (wX gx ax ++ wM gm am)[k]? = some q' ∧ q'.1 = q.1) k := lt_s (p := fun k : Nat => ∀ q, (toW (rho gx gm) (clA ax) ph0)[k]? = some q → ∃ q', (wX gx ax ++ wM gm am)[k]? = some q' ∧ q'.1 = q.1) h_36 fb_36
    have h_38 : ∀ k : Nat, k < 38 → (fun k : Nat => ∀ q, (toW (rho gx gm) (clA ax) ph0)[k]? = some q → ∃ q', (wX gx ax ++ wM gm am)[k]? = some q' ∧ q'.1 = q.1) k := lt_s (p := fun k : Nat => ∀ q, (toW (rho gx gm) (clA ax) ph0)[k]? = some q → ∃ q', (wX gx ax ++ wM gm am)[k]? = some q' ∧ q'.1 = q.1) h_37 fb_37
    have h_39 : ∀ k : Nat, k < 39 → (fun k : Nat => ∀ q, (toW (rho gx gm) (clA ax) ph0)[k]? = some q → ∃ q', (wX gx ax ++ wM gm am)[k]? = some q' ∧ q'.1 = q.1) k := lt_s (p := fun k : Nat => ∀ q, (toW (rho gx gm) (clA ax) ph0)[k]? = some q → ∃ q', (wX gx ax ++ wM gm am)[k]? = some q' ∧ q'.1 = q.1) h_38 fb_38
    have h_40 : ∀ k : Nat, k < 40 → (fun k : Nat => ∀ q, (toW (rho gx gm) (clA ax) ph0)[k]? = some q → ∃ q', (wX gx ax ++ wM gm am)[k]? = some q' ∧ q'.1 = q.1) k := lt_s (p := fun k : Nat => ∀ q, (toW (rho gx gm) (clA ax) ph0)[k]? = some q → ∃ q', (wX gx ax ++ wM gm am)[k]? = some q' ∧ q'.1 = q.1) h_39 fb_39
    have h_41 : ∀ k : Nat, k < 41 → (fun k : Nat => ∀ q, (toW (rho gx gm) (clA ax) ph0)[k]? = some q → ∃ q', (wX gx ax ++ wM gm am)[k]? = some q' ∧ q'.1 = q.1) k := lt_s (p := fun k : Nat => ∀ q, (toW (rho gx gm) (clA ax) ph0)[k]? = some q → ∃ q', (wX gx ax ++ wM gm am)[k]? = some q' ∧ q'.1 = q.1) h_40 fb_40
    have h_42 : ∀ k : Nat, k < 42 → (fun k : Nat => ∀ q, (toW (rho gx gm) (clA ax) ph0)[k]? = some q → ∃ q', (wX gx ax ++ wM gm am)[k]? = some q' ∧ q'.1 = q.1) k := lt_s (p := fun k : Nat => ∀ q, (toW (rho gx gm) (clA ax) ph0)[k]? = some q → ∃ q', (wX gx ax ++ wM gm am)[k]? = some q' ∧ q'.1 = q.1) h_41 fb_41
    have h_43 : ∀ k : Nat, k < 43 → (fun k : Nat => ∀ q, (toW (rho gx gm) (clA ax) ph0)[k]? = some q → ∃ q', (wX gx ax ++ wM gm am)[k]? = some q' ∧ q'.1 = q.1) k := lt_s (p := fun k : Nat => ∀ q, (toW (rho gx gm) (clA ax) ph0)[k]? = some q → ∃ q', (wX gx ax ++ wM gm am)[k]? = some q' ∧ q'.1 = q.1) h_42 fb_42
    have h_44 : ∀ k : Nat, k < 44 → (fun k : Nat => ∀ q, (toW (rho gx gm) (clA ax) ph0)[k]? = some q → ∃ q', (wX gx ax ++ wM gm am)[k]? = some q' ∧ q'.1 = q.1) k := lt_s (p := fun k : Nat => ∀ q, (toW (rho gx gm) (clA ax) ph0)[k]? = some q → ∃ q', (wX gx ax ++ wM gm am)[k]? = some q' ∧ q'.1 = q.1) h_43 fb_43
    have h_45 : ∀ k : Nat, k < 45 → (fun k : Nat => ∀ q, (toW (rho gx gm) (clA ax) ph0)[k]? = some q → ∃ q', (wX gx ax ++ wM gm am)[k]? = some q' ∧ q'.1 = q.1) k := lt_s (p := fun k : Nat => ∀ q, (toW (rho gx gm) (clA ax) ph0)[k]? = some q → ∃ q', (wX gx ax ++ wM gm am)[k]? = some q' ∧ q'.1 = q.1) h_44 fb_44
    have h_46 : ∀ k : Nat, k < 46 → (fun k : Nat => ∀ q, (toW (rho gx gm) (clA ax) ph0)[k]? = some q → ∃ q', (wX gx ax ++ wM gm am)[k]? = some q' ∧ q'.1 = q.1) k := lt_s (p := fun k : Nat => ∀ q, (toW (rho gx gm) (clA ax) ph0)[k]? = some q → ∃ q', (wX gx ax ++ wM gm am)[k]? = some q' ∧ q'.1 = q.1) h_45 fb_45
    have h_47 : ∀ k : Nat, k < 47 → (fun k : Nat => ∀ q, (toW (rho gx gm) (clA ax) ph0)[k]? = some q → ∃ q', (wX gx ax ++ wM gm am)[k]? = some q' ∧ q'.1 = q.1) k := lt_s (p := fun k : Nat => ∀ q, (toW (rho gx gm) (clA ax) ph0)[k]? = some q → ∃ q', (wX gx ax ++ wM gm am)[k]? = some q' ∧ q'.1 = q.1) h_46 fb_46
    have h_48 : ∀ k : Nat, k < 48 → (fun k : Nat => ∀ q, (toW (rho gx gm) (clA ax) ph0)[k]? = some q → ∃ q', (wX gx ax ++ wM gm am)[k]? = some q' ∧ q'.1 = q.1) k := lt_s (p := fun k : Nat => ∀ q, (toW (rho gx gm) (clA ax) ph0)[k]? = some q → ∃ q', (wX gx ax ++ wM gm am)[k]? = some q' ∧ q'.1 = q.1) h_47 fb_47
    have h_49 : ∀ k : Nat, k < 49 → (fun k : Nat => ∀ q, (toW (rho gx gm) (clA ax) ph0)[k]? = some q → ∃ q', (wX gx ax ++ wM gm am)[k]? = some q' ∧ q'.1 = q.1) k := lt_s (p := fun k : Nat => ∀ q, (toW (rho gx gm) (clA ax) ph0)[k]? = some q → ∃ q', (wX gx ax ++ wM gm am)[k]? = some q' ∧ q'.1 = q.1) h_48 fb_48
    have h_50 : ∀ k : Nat, k < 50 → (fun k : Nat => ∀ q, (toW (rho gx gm) (clA ax) ph0)[k]? = some q → ∃ q', (wX gx ax ++ wM gm am)[k]? = some q' ∧ q'.1 = q.1) k := lt_s (p := fun k : Nat => ∀ q, (toW (rho gx gm) (clA ax) ph0)[k]? = some q → ∃ q', (wX gx ax ++ wM gm am)[k]? = some q' ∧ q'.1 = q.1) h_49 fb_49
    have h_51 : ∀ k : Nat, k < 51 → (fun k : Nat => ∀ q, (toW (rho gx gm) (clA ax) ph0)[k]? = some q → ∃ q', (wX gx ax ++ wM gm am)[k]? = some q' ∧ q'.1 = q.1) k := lt_s (p := fun k : Nat => ∀ q, (toW (rho gx gm) (clA ax) ph0)[k]? = some q → ∃ q', (wX gx ax ++ wM gm am)[k]? = some q' ∧ q'.1 = q.1) h_50 fb_50
    have h_52 : ∀ k : Nat, k < 52 → (fun k : Nat => ∀ q, (toW (rho gx gm) (clA ax) ph0)[k]? = some q → ∃ q', (wX gx ax ++ wM gm am)[k]? = some q' ∧ q'.1 = q.1) k := lt_s (p := fun k : Nat => ∀ q, (toW (rho gx gm) (clA ax) ph0)[k]? = some q → ∃ q', (wX gx ax ++ wM gm am)[k]? = some q' ∧ q'.1 = q.1) h_51 fb_51
    have h_53 : ∀ k : Nat, k < 53 → (fun k : Nat => ∀ q, (toW (rho gx gm) (clA ax) ph0)[k]? = some q → ∃ q', (wX gx ax ++ wM gm am)[k]? = some q' ∧ q'.1 = q.1) k := lt_s (p := fun k : Nat => ∀ q, (toW (rho gx gm) (clA ax) ph0)[k]? = some q → ∃ q', (wX gx ax ++ wM gm am)[k]? = some q' ∧ q'.1 = q.1) h_52 fb_52
    have h_54 : ∀ k : Nat, k < 54 → (fun k : Nat => ∀ q, (toW (rho gx gm) (clA ax) ph0)[k]? = some q → ∃ q', (wX gx ax ++ wM gm am)[k]? = some q' ∧ q'.1 = q.1) k := lt_s (p := fun k : Nat => ∀ q, (toW (rho gx gm) (clA ax) ph0)[k]? = some q → ∃ q', (wX gx ax ++ wM gm am)[k]? = some q' ∧ q'.1 = q.1) h_53 fb_53
    have h_55 : ∀ k : Nat, k < 55 → (fun k : Nat => ∀ q, (toW (rho gx gm) (clA ax) ph0)[k]? = some q → ∃ q', (wX gx ax ++ wM gm am)[k]? = some q' ∧ q'.1 = q.1) k := lt_s (p := fun k : Nat => ∀ q, (toW (rho gx gm) (clA ax) ph0)[k]? = some q → ∃ q', (wX gx ax ++ wM gm am)[k]? = some q' ∧ q'.1 = q.1) h_54 fb_54
    have h_56 : ∀ k : Nat, k < 56 → (fun k : Nat => ∀ q, (toW (rho gx gm) (clA ax) ph0)[k]? = some q → ∃ q', (wX gx ax ++ wM gm am)[k]? = some q' ∧ q'.1 = q.1) k := lt_s (p := fun k : Nat => ∀ q, (toW (rho gx gm) (clA ax) ph0)[k]? = some q → ∃ q', (wX gx ax ++ wM gm am)[k]? = some q' ∧ q'.1 = q.1) h_55 fb_55
    have h_57 : ∀ k : Nat, k < 57 → (fun k : Nat => ∀ q, (toW (rho gx gm) (clA ax) ph0)[k]? = some q → ∃ q', (wX gx ax ++ wM gm am)[k]? = some q' ∧ q'.1 = q.1) k := lt_s (p := fun k : Nat => ∀ q, (toW (rho gx gm) (clA ax) ph0)[k]? = some q → ∃ q', (wX gx ax ++ wM gm am)[k]? = some q' ∧ q'.1 = q.1) h_56 fb_56
    have h_58 : ∀ k : Nat, k < 58 → (fun k : Nat => ∀ q, (toW (rho gx gm) (clA ax) ph0)[k]? = some q → ∃ q', (wX gx ax ++ wM gm am)[k]? = some q' ∧ q'.1 = q.1) k := lt_s (p := fun k : Nat => ∀ q, (toW (rho gx gm) (clA ax) ph0)[k]? = some q → ∃ q', (wX gx ax ++ wM gm am)[k]? = some q' ∧ q'.1 = q.1) h_57 fb_57
    have h_59 : ∀ k : Nat, k < 59 → (fun k : Nat => ∀ q, (toW (rho gx gm) (clA ax) ph0)[k]? = some q → ∃ q', (wX gx ax ++ wM gm am)[k]? = some q' ∧ q'.1 = q.1) k := lt_s (p := fun k : Nat => ∀ q, (toW (rho gx gm) (clA ax) ph0)[k]? = some q → ∃ q', (wX gx ax ++ wM gm am)[k]? = some q' ∧ q'.1 = q.1) h_58 fb_58
    have h_60 : ∀ k : Nat, k < 60 → (fun k : Nat => ∀ q, (toW (rho gx gm) (clA ax) ph0)[k]? = some q → ∃ q', (wX gx ax ++ wM gm am)[k]? = some q' ∧ q'.1 = q.1) k := lt_s (p := fun k : Nat => ∀ q, (toW (rho gx gm) (clA ax) ph0)[k]? = some q → ∃ q', (wX gx ax ++ wM gm am)[k]? = some q' ∧ q'.1 = q.1) h_59 fb_59
    have h_61 : ∀ k : Nat, k < 61 → (fun k : Nat => ∀ q, (toW (rho gx gm) (clA ax) ph0)[k]? = some q → ∃ q', (wX gx ax ++ wM gm am)[k]? = some q' ∧ q'.1 = q.1) k := lt_s (p := fun k : Nat => ∀ q, (toW (rho gx gm) (clA ax) ph0)[k]? = some q → ∃ q', (wX gx ax ++ wM gm am)[k]? = some q' ∧ q'.1 = q.1) h_60 fb_60
    have h_62 : ∀ k : Nat, k < 62 → (fun k : Nat => ∀ q, (toW (rho gx gm) (clA ax) ph0)[k]? = some q → ∃ q', (wX gx ax ++ wM gm am)[k]? = some q' ∧ q'.1 = q.1) k := lt_s (p := fun k : Nat => ∀ q, (toW (rho gx gm) (clA ax) ph0)[k]? = some q → ∃ q', (wX gx ax ++ wM gm am)[k]? = some q' ∧ q'.1 = q.1) h_61 fb_61
    have h_63 : ∀ k : Nat, k < 63 → (fun k : Nat => ∀ q, (toW (rho gx gm) (clA ax) ph0)[k]? = some q → ∃ q', (wX gx ax ++ wM gm am)[k]? = some q' ∧ q'.1 = q.1) k := lt_s (p := fun k : Nat => ∀ q, (toW (rho gx gm) (clA ax) ph0)[k]? = some q → ∃ q', (wX gx ax ++ wM gm am)[k]? = some q' ∧ q'.1 = q.1) h_62 fb_62
    have h_64 : ∀ k : Nat, k < 64 → (fun k : Nat => ∀ q, (toW (rho gx gm) (clA ax) ph0)[k]? = some q → ∃ q', (wX gx ax ++ wM gm am)[k]? = some q' ∧ q'.1 = q.1) k := lt_s (p := fun k : Nat => ∀ q, (toW (rho gx gm) (clA ax) ph0)[k]? = some q → ∃ q', (wX gx ax ++ wM gm am)[k]? = some q' ∧ q'.1 = q.1) h_63 fb_63
    have h_65 : ∀ k : Nat, k < 65 → (fun k : Nat => ∀ q, (toW (rho gx gm) (clA ax) ph0)[k]? = some q → ∃ q', (wX gx ax ++ wM gm am)[k]? = some q' ∧ q'.1 = q.1) k := lt_s (p := fun k : Nat => ∀ q, (toW (rho gx gm) (clA ax) ph0)[k]? = some q → ∃ q', (wX gx ax ++ wM gm am)[k]? = some q' ∧ q'.1 = q.1) h_64 fb_64
    have h_66 : ∀ k : Nat, k < 66 → (fun k : Nat => ∀ q, (toW (rho gx gm) (clA ax) ph0)[k]? = some q → ∃ q', (wX gx ax ++ wM gm am)[k]? = some q' ∧ q'.1 = q.1) k := lt_s (p := fun k : Nat => ∀ q, (toW (rho gx gm) (clA ax) ph0)[k]? = some q → ∃ q', (wX gx ax ++ wM gm am)[k]? = some q' ∧ q'.1 = q.1) h_65 fb_65
    have h_67 : ∀ k : Nat, k < 67 → (fun k : Nat => ∀ q, (toW (rho gx gm) (clA ax) ph0)[k]? = some q → ∃ q', (wX gx ax ++ wM gm am)[k]? = some q' ∧ q'.1 = q.1) k := lt_s (p := fun k : Nat => ∀ q, (toW (rho gx gm) (clA ax) ph0)[k]? = some q → ∃ q', (wX gx ax ++ wM gm am)[k]? = some q' ∧ q'.1 = q.1) h_66 fb_66
    have h_68 : ∀ k : Nat, k < 68 → (fun k : Nat => ∀ q, (toW (rho gx gm) (clA ax) ph0)[k]? = some q → ∃ q', (wX gx ax ++ wM gm am)[k]? = some q' ∧ q'.1 = q.1) k := lt_s (p := fun k : Nat => ∀ q, (toW (rho gx gm) (clA ax) ph0)[k]? = some q → ∃ q', (wX gx ax ++ wM gm am)[k]? = some q' ∧ q'.1 = q.1) h_67 fb_67
    have h_69 : ∀ k : Nat, k < 69 → (fun k : Nat => ∀ q, (toW (rho gx gm) (clA ax) ph0)[k]? = some q → ∃ q', (wX gx ax ++ wM gm am)[k]? = some q' ∧ q'.1 = q.1) k := lt_s (p := fun k : Nat => ∀ q, (toW (rho gx gm) (clA ax) ph0)[k]? = some q → ∃ q', (wX gx ax ++ wM gm am)[k]? = some q' ∧ q'.1 = q.1) h_68 fb_68
    have h_70 : ∀ k : Nat, k < 70 → (fun k : Nat => ∀ q, (toW (rho gx gm) (clA ax) ph0)[k]? = some q → ∃ q', (wX gx ax ++ wM gm am)[k]? = some q' ∧ q'.1 = q.1) k := lt_s (p := fun k : Nat => ∀ q, (toW (rho gx gm) (clA ax) ph0)[k]? = some q → ∃ q', (wX gx ax ++ wM gm am)[k]? = some q' ∧ q'.1 = q.1) h_69 fb_69
    have h_71 : ∀ k : Nat, k < 71 → (fun k : Nat => ∀ q, (toW (rho gx gm) (clA ax) ph0)[k]? = some q → ∃ q', (wX gx ax ++ wM gm am)[k]? = some q' ∧ q'.1 = q.1) k := lt_s (p := fun k : Nat => ∀ q, (toW (rho gx gm) (clA ax) ph0)[k]? = some q → ∃ q', (wX gx ax ++ wM gm am)[k]? = some q' ∧ q'.1 = q.1) h_70 fb_70
    have h_72 : ∀ k : Nat, k < 72 → (fun k : Nat => ∀ q, (toW (rho gx gm) (clA ax) ph0)[k]? = some q → ∃ q', (wX gx ax ++ wM gm am)[k]? = some q' ∧ q'.1 = q.1) k := lt_s (p := fun k : Nat => ∀ q, (toW (rho gx gm) (clA ax) ph0)[k]? = some q → ∃ q', (wX gx ax ++ wM gm am)[k]? = some q' ∧ q'.1 = q.1) h_71 fb_71
    have h_73 : ∀ k : Nat, k < 73 → (fun k : Nat => ∀ q, (toW (rho gx gm) (clA ax) ph0)[k]? = some q → ∃ q', (wX gx ax ++ wM gm am)[k]? = some q' ∧ q'.1 = q.1) k := lt_s (p := fun k : Nat => ∀ q, (toW (rho gx gm) (clA ax) ph0)[k]? = some q → ∃ q', (wX gx ax ++ wM gm am)[k]? = some q' ∧ q'.1 = q.1) h_72 fb_72
    have h_74 : ∀ k : Nat, k < 74 → (fun k : Nat => ∀ q, (toW (rho gx gm) (clA ax) ph0)[k]? = some q → ∃ q', (wX gx ax ++ wM gm am)[k]? = some q' ∧ q'.1 = q.1) k := lt_s (p := fun k : Nat => ∀ q, (toW (rho gx gm) (clA ax) ph0)[k]? = some q → ∃ q', (wX gx ax ++ wM gm am)[k]? = some q' ∧ q'.1 = q.1) h_73 fb_73
    have h_75 : ∀ k : Nat, k < 75 → (fun k : Nat => ∀ q, (toW (rho gx gm) (clA ax) ph0)[k]? = some q → ∃ q', (wX gx ax ++ wM gm am)[k]? = some q' ∧ q'.1 = q.1) k := lt_s (p := fun k : Nat => ∀ q, (toW (rho gx gm) (clA ax) ph0)[k]? = some q → ∃ q', (wX gx ax ++ wM gm am)[k]? = some q' ∧ q'.1 = q.1) h_74 fb_74
    have h_76 : ∀ k : Nat, k < 76 → (fun k : Nat => ∀ q, (toW (rho gx gm) (clA ax) ph0)[k]? = some q → ∃ q', (wX gx ax ++ wM gm am)[k]? = some q' ∧ q'.1 = q.1) k := lt_s (p := fun k : Nat => ∀ q, (toW (rho gx gm) (clA ax) ph0)[k]? = some q → ∃ q', (wX gx ax ++ wM gm am)[k]? = some q' ∧ q'.1 = q.1) h_75 fb_75
    have h_77 : ∀ k : Nat, k < 77 → (fun k : Nat => ∀ q, (toW (rho gx gm) (clA ax) ph0)[k]? = some q → ∃ q', (wX gx ax ++ wM gm am)[k]? = some q' ∧ q'.1 = q.1) k := lt_s (p := fun k : Nat => ∀ q, (toW (rho gx gm) (clA ax) ph0)[k]? = some q → ∃ q', (wX gx ax ++ wM gm am)[k]? = some q' ∧ q'.1 = q.1) h_76 fb_76
    have h_78 : ∀ k : Nat, k < 78 → (fun k : Nat => ∀ q, (toW (rho gx gm) (clA ax) ph0)[k]? = some q → ∃ q', (wX gx ax ++ wM gm am)[k]? = some q' ∧ q'.1 = q.1) k := lt_s (p := fun k : Nat => ∀ q, (toW (rho gx gm) (clA ax) ph0)[k]? = some q → ∃ q', (wX gx ax ++ wM gm am)[k]? = some q' ∧ q'.1 = q.1) h_77 fb_77
    have h_79 : ∀ k : Nat, k < 79 → (fun k : Nat => ∀ q, (toW (rho gx gm) (clA ax) ph0)[k]? = some q → ∃ q', (wX gx ax ++ wM gm am)[k]? = some q' ∧ q'.1 = q.1) k := lt_s (p := fun k : Nat => ∀ q, (toW (rho gx gm) (clA ax) ph0)[k]? = some q → ∃ q', (wX gx ax ++ wM gm am)[k]? = some q' ∧ q'.1 = q.1) h_78 fb_78
    have h_80 : ∀ k : Nat, k < 80 → (fun k : Nat => ∀ q, (toW (rho gx gm) (clA ax) ph0)[k]? = some q → ∃ q', (wX gx ax ++ wM gm am)[k]? = some q' ∧ q'.1 = q.1) k := lt_s (p := fun k : Nat => ∀ q, (toW (rho gx gm) (clA ax) ph0)[k]? = some q → ∃ q', (wX gx ax ++ wM gm am)[k]? = some q' ∧ q'.1 = q.1) h_79 fb_79
    have h_81 : ∀ k : Nat, k < 81 → (fun k : Nat => ∀ q, (toW (rho gx gm) (clA ax) ph0)[k]? = some q → ∃ q', (wX gx ax ++ wM gm am)[k]? = some q' ∧ q'.1 = q.1) k := lt_s (p := fun k : Nat => ∀ q, (toW (rho gx gm) (clA ax) ph0)[k]? = some q → ∃ q', (wX gx ax ++ wM gm am)[k]? = some q' ∧ q'.1 = q.1) h_80 fb_80
    have h_82 : ∀ k : Nat, k < 82 → (fun k : Nat => ∀ q, (toW (rho gx gm) (clA ax) ph0)[k]? = some q → ∃ q', (wX gx ax ++ wM gm am)[k]? = some q' ∧ q'.1 = q.1) k := lt_s (p := fun k : Nat => ∀ q, (toW (rho gx gm) (clA ax) ph0)[k]? = some q → ∃ q', (wX gx ax ++ wM gm am)[k]? = some q' ∧ q'.1 = q.1) h_81 fb_81
    have h_83 : ∀ k : Nat, k < 83 → (fun k : Nat => ∀ q, (toW (rho gx gm) (clA ax) ph0)[k]? = some q → ∃ q', (wX gx ax ++ wM gm am)[k]? = some q' ∧ q'.1 = q.1) k := lt_s (p := fun k : Nat => ∀ q, (toW (rho gx gm) (clA ax) ph0)[k]? = some q → ∃ q', (wX gx ax ++ wM gm am)[k]? = some q' ∧ q'.1 = q.1) h_82 fb_82
    have h_84 : ∀ k : Nat, k < 84 → (fun k : Nat => ∀ q, (toW (rho gx gm) (clA ax) ph0)[k]? = some q → ∃ q', (wX gx ax ++ wM gm am)[k]? = some q' ∧ q'.1 = q.1) k := lt_s (p := fun k : Nat => ∀ q, (toW (rho gx gm) (clA ax) ph0)[k]? = some q → ∃ q', (wX gx ax ++ wM gm am)[k]? = some q' ∧ q'.1 = q.1) h_83 fb_83
    have h_85 : ∀ k : Nat, k < 85 → (fun k : Nat => ∀ q, (toW (rho gx gm) (clA ax) ph0)[k]? = some q → ∃ q', (wX gx ax ++ wM gm am)[k]? = some q' ∧ q'.1 = q.1) k := lt_s (p := fun k : Nat => ∀ q, (toW (rho gx gm) (clA ax) ph0)[k]? = some q → ∃ q', (wX gx ax ++ wM gm am)[k]? = some q' ∧ q'.1 = q.1) h_84 fb_84
    have h_86 : ∀ k : Nat, k < 86 → (fun k : Nat => ∀ q, (toW (rho gx gm) (clA ax) ph0)[k]? = some q → ∃ q', (wX gx ax ++ wM gm am)[k]? = some q' ∧ q'.1 = q.1) k := lt_s (p := fun k : Nat => ∀ q, (toW (rho gx gm) (clA ax) ph0)[k]? = some q → ∃ q', (wX gx ax ++ wM gm am)[k]? = some q' ∧ q'.1 = q.1) h_85 fb_85
    have h_87 : ∀ k : Nat, k < 87 → (fun k : Nat => ∀ q, (toW (rho gx gm) (clA ax) ph0)[k]? = some q → ∃ q', (wX gx ax ++ wM gm am)[k]? = some q' ∧ q'.1 = q.1) k := lt_s (p := fun k : Nat => ∀ q, (toW (rho gx gm) (clA ax) ph0)[k]? = some q → ∃ q', (wX gx ax ++ wM gm am)[k]? = some q' ∧ q'.1 = q.1) h_86 fb_86
    have h_88 : ∀ k : Nat, k < 88 → (fun k : Nat => ∀ q, (toW (rho gx gm) (clA ax) ph0)[k]? = some q → ∃ q', (wX gx ax ++ wM gm am)[k]? = some q' ∧ q'.1 = q.1) k := lt_s (p := fun k : Nat => ∀ q, (toW (rho gx gm) (clA ax) ph0)[k]? = some q → ∃ q', (wX gx ax ++ wM gm am)[k]? = some q' ∧ q'.1 = q.1) h_87 fb_87
    have h_89 : ∀ k : Nat, k < 89 → (fun k : Nat => ∀ q, (toW (rho gx gm) (clA ax) ph0)[k]? = some q → ∃ q', (wX gx ax ++ wM gm am)[k]? = some q' ∧ q'.1 = q.1) k := lt_s (p := fun k : Nat => ∀ q, (toW (rho gx gm) (clA ax) ph0)[k]? = some q → ∃ q', (wX gx ax ++ wM gm am)[k]? = some q' ∧ q'.1 = q.1) h_88 fb_88
    have h_90 : ∀ k : Nat, k < 90 → (fun k : Nat => ∀ q, (toW (rho gx gm) (clA ax) ph0)[k]? = some q → ∃ q', (wX gx ax ++ wM gm am)[k]? = some q' ∧ q'.1 = q.1) k := lt_s (p := fun k : Nat => ∀ q, (toW (rho gx gm) (clA ax) ph0)[k]? = some q → ∃ q', (wX gx ax ++ wM gm am)[k]? = some q' ∧ q'.1 = q.1) h_89 fb_89
    have h_91 : ∀ k : Nat, k < 91 → (fun k : Nat => ∀ q, (toW (rho gx gm) (clA ax) ph0)[k]? = some q → ∃ q', (wX gx ax ++ wM gm am)[k]? = some q' ∧ q'.1 = q.1) k := lt_s (p := fun k : Nat => ∀ q, (toW (rho gx gm) (clA ax) ph0)[k]? = some q → ∃ q', (wX gx ax ++ wM gm am)[k]? = some q' ∧ q'.1 = q.1) h_90 fb_90
    have h_92 : ∀ k : Nat, k < 92 → (fun k : Nat => ∀ q, (toW (rho gx gm) (clA ax) ph0)[k]? = some q → ∃ q', (wX gx ax ++ wM gm am)[k]? = some q' ∧ q'.1 = q.1) k := lt_s (p := fun k : Nat => ∀ q, (toW (rho gx gm) (clA ax) ph0)[k]? = some q → ∃ q', (wX gx ax ++ wM gm am)[k]? = some q' ∧ q'.1 = q.1) h_91 fb_91
    have h_93 : ∀ k : Nat, k < 93 → (fun k : Nat => ∀ q, (toW (rho gx gm) (clA ax) ph0)[k]? = some q → ∃ q', (wX gx ax ++ wM gm am)[k]? = some q' ∧ q'.1 = q.1) k := lt_s (p := fun k : Nat => ∀ q, (toW (rho gx gm) (clA ax) ph0)[k]? = some q → ∃ q', (wX gx ax ++ wM gm am)[k]? = some q' ∧ q'.1 = q.1) h_92 fb_92
    have h_94 : ∀ k : Nat, k < 94 → (fun k : Nat => ∀ q, (toW (rho gx gm) (clA ax) ph0)[k]? = some q → ∃ q', (wX gx ax ++ wM gm am)[k]? = some q' ∧ q'.1 = q.1) k := lt_s (p := fun k : Nat => ∀ q, (toW (rho gx gm) (clA ax) ph0)[k]? = some q → ∃ q', (wX gx ax ++ wM gm am)[k]? = some q' ∧ q'.1 = q.1) h_93 fb_93
    have h_95 : ∀ k : Nat, k < 95 → (fun k : Nat => ∀ q, (toW (rho gx gm) (clA ax) ph0)[k]? = some q → ∃ q', (wX gx ax ++ wM gm am)[k]? = some q' ∧ q'.1 = q.1) k := lt_s (p := fun k : Nat => ∀ q, (toW (rho gx gm) (clA ax) ph0)[k]? = some q → ∃ q', (wX gx ax ++ wM gm am)[k]? = some q' ∧ q'.1 = q.1) h_94 fb_94
    have h_96 : ∀ k : Nat, k < 96 → (fun k : Nat => ∀ q, (toW (rho gx gm) (clA ax) ph0)[k]? = some q → ∃ q', (wX gx ax ++ wM gm am)[k]? = some q' ∧ q'.1 = q.1) k := lt_s (p := fun k : Nat => ∀ q, (toW (rho gx gm) (clA ax) ph0)[k]? = some q → ∃ q', (wX gx ax ++ wM gm am)[k]? = some q' ∧ q'.1 = q.1) h_95 fb_95
    have h_97 : ∀ k : Nat, k < 97 → (fun k : Nat => ∀ q, (toW (rho gx gm) (clA ax) ph0)[k]? = some q → ∃ q', (wX gx ax ++ wM gm am)[k]? = some q' ∧ q'.1 = q.1) k := lt_s (p := fun k : Nat => ∀ q, (toW (rho gx gm) (clA ax) ph0)[k]? = some q → ∃ q', (wX gx ax ++ wM gm am)[k]? = some q' ∧ q'.1 = q.1) h_96 fb_96
    have h_98 : ∀ k : Nat, k < 98 → (fun k : Nat => ∀ q, (toW (rho gx gm) (clA ax) ph0)[k]? = some q → ∃ q', (wX gx ax ++ wM gm am)[k]? = some q' ∧ q'.1 = q.1) k := lt_s (p := fun k : Nat => ∀ q, (toW (rho gx gm) (clA ax) ph0)[k]? = some q → ∃ q', (wX gx ax ++ wM gm am)[k]? = some q' ∧ q'.1 = q.1) h_97 fb_97
    have h_99 : ∀ k : Nat, k < 99 → (fun k : Nat => ∀ q, (toW (rho gx gm) (clA ax) ph0)[k]? = some q → ∃ q', (wX gx ax ++ wM gm am)[k]? = some q' ∧ q'.1 = q.1) k := lt_s (p := fun k : Nat => ∀ q, (toW (rho gx gm) (clA ax) ph0)[k]? = some q → ∃ q', (wX gx ax ++ wM gm am)[k]? = some q' ∧ q'.1 = q.1) h_98 fb_98
    have h_100 : ∀ k : Nat, k < 100 → (fun k : Nat => ∀ q, (toW (rho gx gm) (clA ax) ph0)[k]? = some q → ∃ q', (wX gx ax ++ wM gm am)[k]? = some q' ∧ q'.1 = q.1) k := lt_s (p := fun k : Nat => ∀ q, (toW (rho gx gm) (clA ax) ph0)[k]? = some q → ∃ q', (wX gx ax ++ wM gm am)[k]? = some q' ∧ q'.1 = q.1) h_99 fb_99
    have h_101 : ∀ k : Nat, k < 101 → (fun k : Nat => ∀ q, (toW (rho gx gm) (clA ax) ph0)[k]? = some q → ∃ q', (wX gx ax ++ wM gm am)[k]? = some q' ∧ q'.1 = q.1) k := lt_s (p := fun k : Nat => ∀ q, (toW (rho gx gm) (clA ax) ph0)[k]? = some q → ∃ q', (wX gx ax ++ wM gm am)[k]? = some q' ∧ q'.1 = q.1) h_100 fb_100
    have h_102 : ∀ k : Nat, k < 102 → (fun k : Nat => ∀ q, (toW (rho gx gm) (clA ax) ph0)[k]? = some q → ∃ q', (wX gx ax ++ wM gm am)[k]? = some q' ∧ q'.1 = q.1) k := lt_s (p := fun k : Nat => ∀ q, (toW (rho gx gm) (clA ax) ph0)[k]? = some q → ∃ q', (wX gx ax ++ wM gm am)[k]? = some q' ∧ q'.1 = q.1) h_101 fb_101
    have h_103 : ∀ k : Nat, k < 103 → (fun k : Nat => ∀ q, (toW (rho gx gm) (clA ax) ph0)[k]? = some q → ∃ q', (wX gx ax ++ wM gm am)[k]? = some q' ∧ q'.1 = q.1) k := lt_s (p := fun k : Nat => ∀ q, (toW (rho gx gm) (clA ax) ph0)[k]? = some q → ∃ q', (wX gx ax ++ wM gm am)[k]? = some q' ∧ q'.1 = q.1) h_102 fb_102
    have h_104 : ∀ k : Nat, k < 104 → (fun k : Nat => ∀ q, (toW (rho gx gm) (clA ax) ph0)[k]? = some q → ∃ q', (wX gx ax ++ wM gm am)[k]? = some q' ∧ q'.1 = q.1) k := lt_s (p := fun k : Nat => ∀ q, (toW (rho gx gm) (clA ax) ph0)[k]? = some q → ∃ q', (wX gx ax ++ wM gm am)[k]? = some q' ∧ q'.1 = q.1) h_103 fb_103
    have h_105 : ∀ k : Nat, k < 105 → (fun k : Nat => ∀ q, (toW (rho gx gm) (clA ax) ph0)[k]? = some q → ∃ q', (wX gx ax ++ wM gm am)[k]? = some q' ∧ q'.1 = q.1) k := lt_s (p := fun k : Nat => ∀ q, (toW (rho gx gm) (clA ax) ph0)[k]? = some q → ∃ q', (wX gx ax ++ wM gm am)[k]? = some q' ∧ q'.1 = q.1) h_104 fb_104
    have h_106 : ∀ k : Nat, k < 106 → (fun k : Nat => ∀ q, (toW (rho gx gm) (clA ax) ph0)[k]? = some q → ∃ q', (wX gx ax ++ wM gm am)[k]? = some q' ∧ q'.1 = q.1) k := lt_s (p := fun k : Nat => ∀ q, (toW (rho gx gm) (clA ax) ph0)[k]? = some q → ∃ q', (wX gx ax ++ wM gm am)[k]? = some q' ∧ q'.1 = q.1) h_105 fb_105
    have h_107 : ∀ k : Nat, k < 107 → (fun k : Nat => ∀ q, (toW (rho gx gm) (clA ax) ph0)[k]? = some q → ∃ q', (wX gx ax ++ wM gm am)[k]? = some q' ∧ q'.1 = q.1) k := lt_s (p := fun k : Nat => ∀ q, (toW (rho gx gm) (clA ax) ph0)[k]? = some q → ∃ q', (wX gx ax ++ wM gm am)[k]? = some q' ∧ q'.1 = q.1) h_106 fb_106
    have h_108 : ∀ k : Nat, k < 108 → (fun k : Nat => ∀ q, (toW (rho gx gm) (clA ax) ph0)[k]? = some q → ∃ q', (wX gx ax ++ wM gm am)[k]? = some q' ∧ q'.1 = q.1) k := lt_s (p := fun k : Nat => ∀ q, (toW (rho gx gm) (clA ax) ph0)[k]? = some q → ∃ q', (wX gx ax ++ wM gm am)[k]? = some q' ∧ q'.1 = q.1) h_107 fb_107
    have h_109 : ∀ k : Nat, k < 109 → (fun k : Nat => ∀ q, (toW (rho gx gm) (clA ax) ph0)[k]? = some q → ∃ q', (wX gx ax ++ wM gm am)[k]? = some q' ∧ q'.1 = q.1) k := lt_s (p := fun k : Nat => ∀ q, (toW (rho gx gm) (clA ax) ph0)[k]? = some q → ∃ q', (wX gx ax ++ wM gm am)[k]? = some q' ∧ q'.1 = q.1) h_108 fb_108
    have h_110 : ∀ k : Nat, k < 110 → (fun k : Nat => ∀ q, (toW (rho gx gm) (clA ax) ph0)[k]? = some q → ∃ q', (wX gx ax ++ wM gm am)[k]? = some q' ∧ q'.1 = q.1) k := lt_s (p := fun k : Nat => ∀ q, (toW (rho gx gm) (clA ax) ph0)[k]? = some q → ∃ q', (wX gx ax ++ wM gm am)[k]? = some q' ∧ q'.1 = q.1) h_109 fb_109
    have h_111 : ∀ k : Nat, k < 111 → (fun k : Nat => ∀ q, (toW (rho gx gm) (clA ax) ph0)[k]? = some q → ∃ q', (wX gx ax ++ wM gm am)[k]? = some q' ∧ q'.1 = q.1) k := lt_s (p := fun k : Nat => ∀ q, (toW (rho gx gm) (clA ax) ph0)[k]? = some q → ∃ q', (wX gx ax ++ wM gm am)[k]? = some q' ∧ q'.1 = q.1) h_110 fb_110
    have h_112 : ∀ k : Nat, k < 112 → (fun k : Nat => ∀ q, (toW (rho gx gm) (clA ax) ph0)[k]? = some q → ∃ q', (wX gx ax ++ wM gm am)[k]? = some q' ∧ q'.1 = q.1) k := lt_s (p := fun k : Nat => ∀ q, (toW (rho gx gm) (clA ax) ph0)[k]? = some q → ∃ q', (wX gx ax ++ wM gm am)[k]? = some q' ∧ q'.1 = q.1) h_111 fb_111
    have h_113 : ∀ k : Nat, k < 113 → (fun k : Nat => ∀ q, (toW (rho gx gm) (clA ax) ph0)[k]? = some q → ∃ q', (wX gx ax ++ wM gm am)[k]? = some q' ∧ q'.1 = q.1) k := lt_s (p := fun k : Nat => ∀ q, (toW (rho gx gm) (clA ax) ph0)[k]? = some q → ∃ q', (wX gx ax ++ wM gm am)[k]? = some q' ∧ q'.1 = q.1) h_112 fb_112
    have h_114 : ∀ k : Nat, k < 114 → (fun k : Nat => ∀ q, (toW (rho gx gm) (clA ax) ph0)[k]? = some q → ∃ q', (wX gx ax ++ wM gm am)[k]? = some q' ∧ q'.1 = q.1) k := lt_s (p := fun k : Nat => ∀ q, (toW (rho gx gm) (clA ax) ph0)[k]? = some q → ∃ q', (wX gx ax ++ wM gm am)[k]? = some q' ∧ q'.1 = q.1) h_113 fb_113
    have h_115 : ∀ k : Nat, k < 115 → (fun k : Nat => ∀ q, (toW (rho gx gm) (clA ax) ph0)[k]? = some q → ∃ q', (wX gx ax ++ wM gm am)[k]? = some q' ∧ q'.1 = q.1) k := lt_s (p := fun k : Nat => ∀ q, (toW (rho gx gm) (clA ax) ph0)[k]? = some q → ∃ q', (wX gx ax ++ wM gm am)[k]? = some q' ∧ q'.1 = q.1) h_114 fb_114
    have h_116 : ∀ k : Nat, k < 116 → (fun k : Nat => ∀ q, (toW (rho gx gm) (clA ax) ph0)[k]? = some q → ∃ q', (wX gx ax ++ wM gm am)[k]? = some q' ∧ q'.1 = q.1) k := lt_s (p := fun k : Nat => ∀ q, (toW (rho gx gm) (clA ax) ph0)[k]? = some q → ∃ q', (wX gx ax ++ wM gm am)[k]? = some q' ∧ q'.1 = q.1) h_115 fb_115
    have h_117 : ∀ k : Nat, k < 117 → (fun k : Nat => ∀ q, (toW (rho gx gm) (clA ax) ph0)[k]? = some q → ∃ q', (wX gx ax ++ wM gm am)[k]? = some q' ∧ q'.1 = q.1) k := lt_s (p := fun k : Nat => ∀ q, (toW (rho gx gm) (clA ax) ph0)[k]? = some q → ∃ q', (wX gx ax ++ wM gm am)[k]? = some q' ∧ q'.1 = q.1) h_116 fb_116
    have h_118 : ∀ k : Nat, k < 118 → (fun k : Nat => ∀ q, (toW (rho gx gm) (clA ax) ph0)[k]? = some q → ∃ q', (wX gx ax ++ wM gm am)[k]? = some q' ∧ q'.1 = q.1) k := lt_s (p := fun k : Nat => ∀ q, (toW (rho gx gm) (clA ax) ph0)[k]? = some q → ∃ q', (wX gx ax ++ wM gm am)[k]? = some q' ∧ q'.1 = q.1) h_117 fb_117
    have h_119 : ∀ k : Nat, k < 119 → (fun k : Nat => ∀ q, (toW (rho gx gm) (clA ax) ph0)[k]? = some q → ∃ q', (wX gx ax ++ wM gm am)[k]? = some q' ∧ q'.1 = q.1) k := lt_s (p := fun k : Nat => ∀ q, (toW (rho gx gm) (clA ax) ph0)[k]? = some q → ∃ q', (wX gx ax ++ wM gm am)[k]? = some q' ∧ q'.1 = q.1) h_118 fb_118
    have h_120 : ∀ k : Nat, k < 120 → (fun k : Nat => ∀ q, (toW (rho gx gm) (clA ax) ph0)[k]? = some q → ∃ q', (wX gx ax ++ wM gm am)[k]? = some q' ∧ q'.1 = q.1) k := lt_s (p := fun k : Nat => ∀ q, (toW (rho gx gm) (clA ax) ph0)[k]? = some q → ∃ q', (wX gx ax ++ wM gm am)[k]? = some q' ∧ q'.1 = q.1) h_119 fb_119
    have h_121 : ∀ k : Nat, k < 121 → (fun k : Nat => ∀ q, (toW (rho gx gm) (clA ax) ph0)[k]? = some q → ∃ q', (wX gx ax ++ wM gm am)[k]? = some q' ∧ q'.1 = q.1) k := lt_s (p := fun k : Nat => ∀ q, (toW (rho gx gm) (clA ax) ph0)[k]? = some q → ∃ q', (wX gx ax ++ wM gm am)[k]? = some q' ∧ q'.1 = q.1) h_120 fb_120
    have h_122 : ∀ k : Nat, k < 122 → (fun k : Nat => ∀ q, (toW (rho gx gm) (clA ax) ph0)[k]? = some q → ∃ q', (wX gx ax ++ wM gm am)[k]? = some q' ∧ q'.1 = q.1) k := lt_s (p := fun k : Nat => ∀ q, (toW (rho gx gm) (clA ax) ph0)[k]? = some q → ∃ q', (wX gx ax ++ wM gm am)[k]? = some q' ∧ q'.1 = q.1) h_121 fb_121
    have h_123 : ∀ k : Nat, k < 123 → (fun k : Nat => ∀ q, (toW (rho gx gm) (clA ax) ph0)[k]? = some q → ∃ q', (wX gx ax ++ wM gm am)[k]? = some q' ∧ q'.1 = q.1) k := lt_s (p := fun k : Nat => ∀ q, (toW (rho gx gm) (clA ax) ph0)[k]? = some q → ∃ q', (wX gx ax ++ wM gm am)[k]? = some q' ∧ q'.1 = q.1) h_122 fb_122
    have h_124 : ∀ k : Nat, k < 124 → (fun k : Nat => ∀ q, (toW (rho gx gm) (clA ax) ph0)[k]? = some q → ∃ q', (wX gx ax ++ wM gm am)[k]? = some q' ∧ q'.1 = q.1) k := lt_s (p := fun k : Nat => ∀ q, (toW (rho gx gm) (clA ax) ph0)[k]? = some q → ∃ q', (wX gx ax ++ wM gm am)[k]? = some q' ∧ q'.1 = q.1) h_123 fb_123
    have h_125 : ∀ k : Nat, k < 125 → (fun k : Nat => ∀ q, (toW (rho gx gm) (clA ax) ph0)[k]? = some q → ∃ q', (wX gx ax ++ wM gm am)[k]? = some q' ∧ q'.1 = q.1) k := lt_s (p := fun k : Nat => ∀ q, (toW (rho gx gm) (clA ax) ph0)[k]? = some q → ∃ q', (wX gx ax ++ wM gm am)[k]? = some q' ∧ q'.1 = q.1) h_124 fb_124
    have h_126 : ∀ k : Nat, k < 126 → (fun k : Nat => ∀ q, (toW (rho gx gm) (clA ax) ph0)[k]? = some q → ∃ q', (wX gx ax ++ wM gm am)[k]? = some q' ∧ q'.1 = q.1) k := lt_s (p := fun k : Nat => ∀ q, (toW (rho gx gm) (clA ax) ph0)[k]? = some q → ∃ q', (wX gx ax ++ wM gm am)[k]? = some q' ∧ q'.1 = q.1) h_125 fb_125
    have h_127 : ∀ k : Nat, k < 127 → (fun k : Nat => ∀ q, (toW (rho gx gm) (clA ax) ph0)[k]? = some q → ∃ q', (wX gx ax ++ wM gm am)[k]? = some q' ∧ q'.1 = q.1) k := lt_s (p := fun k : Nat => ∀ q, (toW (rho gx gm) (clA ax) ph0)[k]? = some q → ∃ q', (wX gx ax ++ wM gm am)[k]? = some q' ∧ q'.1 = q.1) h_126 fb_126
    have h_128 : ∀ k : Nat, k < 128 → (fun k : Nat => ∀ q, (toW (rho gx gm) (clA ax) ph0)[k]? = some q → ∃ q', (wX gx ax ++ wM gm am)[k]? = some q' ∧ q'.1 = q.1) k := lt_s (p := fun k : Nat => ∀ q, (toW (rho gx gm) (clA ax) ph0)[k]? = some q → ∃ q', (wX gx ax ++ wM gm am)[k]? = some q' ∧ q'.1 = q.1) h_127 fb_127
    have h_129 : ∀ k : Nat, k < 129 → (fun k : Nat => ∀ q, (toW (rho gx gm) (clA ax) ph0)[k]? = some q → ∃ q', (wX gx ax ++ wM gm am)[k]? = some q' ∧ q'.1 = q.1) k := lt_s (p := fun k : Nat => ∀ q, (toW (rho gx gm) (clA ax) ph0)[k]? = some q → ∃ q', (wX gx ax ++ wM gm am)[k]? = some q' ∧ q'.1 = q.1) h_128 fb_128
    have h_130 : ∀ k : Nat, k < 130 → (fun k : Nat => ∀ q, (toW (rho gx gm) (clA ax) ph0)[k]? = some q → ∃ q', (wX gx ax ++ wM gm am)[k]? = some q' ∧ q'.1 = q.1) k := lt_s (p := fun k : Nat => ∀ q, (toW (rho gx gm) (clA ax) ph0)[k]? = some q → ∃ q', (wX gx ax ++ wM gm am)[k]? = some q' ∧ q'.1 = q.1) h_129 fb_129
    have h_131 : ∀ k : Nat, k < 131 → (fun k : Nat => ∀ q, (toW (rho gx gm) (clA ax) ph0)[k]? = some q → ∃ q', (wX gx ax ++ wM gm am)[k]? = some q' ∧ q'.1 = q.1) k := lt_s (p := fun k : Nat => ∀ q, (toW (rho gx gm) (clA ax) ph0)[k]? = some q → ∃ q', (wX gx ax ++ wM gm am)[k]? = some q' ∧ q'.1 = q.1) h_130 fb_130
    rcases Nat.lt_or_ge k 131 with c | c
    · exact h_131 k c q hq
    · rw [List.getElem?_eq_none (by rw [toW_len]; exact c)] at hq
      cases hq

theorem bz_all : ∀ k, k < 131 → bz k = true := by decide +kernel
theorem ph0_rng : ∀ k j, k ≠ 1 → k ≠ 68 → k ≠ 96 → k ≠ 127 → ph0.1 k j = 0 := fun k j h1 h2 h3 h4 => by
  show (if k = 1 then (fun j : Nat => if j = 2 then (-1 : Int32) else if j = 3 then 5 else 0) else if k = 68 then nF else if k = 96 then (fun j => if j = 13 then -1 else 0) else if k = 127 then nF else fun _ => 0) j = 0
  rw [if_neg h1, if_neg h2, if_neg h3, if_neg h4]
theorem bz_0 (k j : Nat) : (bnd k j).1 ≤ 0 ∧ 0 ≤ (bnd k j).2 := by
  rcases Nat.lt_or_ge k 131 with c | c
  · exact bz_ok (bz_all k c) j
  · have : BT[k]? = none := List.getElem?_eq_none c
    have e : bnd k j = (-2147483648, 2147483647) := by unfold bnd; rw [this]
    rw [e]
    decide
theorem INV_ph0 : INV ph0 := by
  refine ⟨fun k j => ?_, ?_⟩
  · by_cases h1 : k = 1
    · subst h1
      show (bnd 1 j).1 ≤ ((if j = 2 then (-1 : Int32) else if j = 3 then 5 else 0) : Int32).toInt ∧ _
      by_cases c : j = 1
      · subst c; decide
      · rw [bnd_far (-2147483648) 2147483647 [(1, 0, 3)] rfl (fun e he => by simp at he; subst he; exact fun x => c x.symm)]; exact i_rng _
    · by_cases h2 : k = 68
      · subst h2
        show (-1 : Int) ≤ (nF j).toInt ∧ (nF j).toInt ≤ 60
        unfold nF
        split <;> decide
      · by_cases h3 : k = 96
        · subst h3
          by_cases c : j = 13
          · subst c; decide
          · rw [show ph0.1 96 j = 0 from if_neg c]; exact bz_0 96 j
        · by_cases h4 : k = 127
          · subst h4
            show (-1 : Int) ≤ (nF j).toInt ∧ (nF j).toInt ≤ 60
            unfold nF
            split <;> decide
          · rw [ph0_rng k j h1 h2 h3 h4]; exact bz_0 k j
  · have z : ∀ k j, k ≠ 1 → k ≠ 68 → k ≠ 96 → k ≠ 127 → (ph0.1 k j).toInt = 0 := fun k j a b c d => by rw [ph0_rng k j a b c d]; rfl
    have el : ∀ k, k ≠ 1 → k ≠ 68 → k ≠ 96 → k ≠ 127 → EL (ph0.1 k) := fun k a b c d h => by rw [z k 10 a b c d] at h; exact absurd h (by decide)
    have ea : ∀ k o, k ≠ 1 → k ≠ 68 → k ≠ 96 → k ≠ 127 → EA (ph0.1 k) o := fun k o a b c d => ⟨fun j h => by rw [z k _ a b c d] at h; omega, fun h => by rw [z k _ a b c d] at h; exact absurd h (by decide), fun h => by rw [z k _ a b c d] at h; exact absurd h (by decide)⟩
    exact ⟨el 17 (by decide) (by decide) (by decide) (by decide), el 29 (by decide) (by decide) (by decide) (by decide), el 41 (by decide) (by decide) (by decide) (by decide), el 53 (by decide) (by decide) (by decide) (by decide), ea 97 0 (by decide) (by decide) (by decide) (by decide), ea 98 0 (by decide) (by decide) (by decide) (by decide), ea 98 68 (by decide) (by decide) (by decide) (by decide), ea 98 136 (by decide) (by decide) (by decide) (by decide)⟩
