set_option maxRecDepth 100000 in
theorem pb_0 {dC : Nat → ClassId} {dI : Nat → Nat → Nat} {s : State} {gx gm : Nat → Nat} {ax am : Nat → ClassId} {H : Heap} (hK : va_K (dC, dI) vwCl (tX ax ++ tM am) s) (hP : va_P (dC, dI) vwCl (wX gx ax ++ wM gm am) H) : ∀ q, (toW (rho gx gm) (clA ax) ph0)[0]? = some q → va_at (dC, dI) vwCl q H := fun q hq => by
  cases (toW_at sh_0).symm.trans hq
  exact hP 0 _ rfl
set_option maxRecDepth 100000 in
theorem pb_1 {dC : Nat → ClassId} {dI : Nat → Nat → Nat} {s : State} {gx gm : Nat → Nat} {ax am : Nat → ClassId} {H : Heap} (hK : va_K (dC, dI) vwCl (tX ax ++ tM am) s) (hP : va_P (dC, dI) vwCl (wX gx ax ++ wM gm am) H) : ∀ q, (toW (rho gx gm) (clA ax) ph0)[1]? = some q → va_at (dC, dI) vwCl q H := fun q hq => by
  cases (toW_at sh_1).symm.trans hq
  exact hP 1 _ rfl
set_option maxRecDepth 100000 in
theorem pb_2 {dC : Nat → ClassId} {dI : Nat → Nat → Nat} {s : State} {gx gm : Nat → Nat} {ax am : Nat → ClassId} {H : Heap} (hK : va_K (dC, dI) vwCl (tX ax ++ tM am) s) (hP : va_P (dC, dI) vwCl (wX gx ax ++ wM gm am) H) : ∀ q, (toW (rho gx gm) (clA ax) ph0)[2]? = some q → va_at (dC, dI) vwCl q H := fun q hq => by
  cases (toW_at sh_2).symm.trans hq
  exact hP 2 _ rfl
set_option maxRecDepth 100000 in
theorem pb_3 {dC : Nat → ClassId} {dI : Nat → Nat → Nat} {s : State} {gx gm : Nat → Nat} {ax am : Nat → ClassId} {H : Heap} (hK : va_K (dC, dI) vwCl (tX ax ++ tM am) s) (hP : va_P (dC, dI) vwCl (wX gx ax ++ wM gm am) H) : ∀ q, (toW (rho gx gm) (clA ax) ph0)[3]? = some q → va_at (dC, dI) vwCl q H := fun q hq => by
  cases (toW_at sh_3).symm.trans hq
  have z : H[gx 3]? = some (vp_cell (ax 3) (500, .inl (fun _ => 0))) := hP 3 _ rfl
  exact z
set_option maxRecDepth 100000 in
theorem pb_4 {dC : Nat → ClassId} {dI : Nat → Nat → Nat} {s : State} {gx gm : Nat → Nat} {ax am : Nat → ClassId} {H : Heap} (hK : va_K (dC, dI) vwCl (tX ax ++ tM am) s) (hP : va_P (dC, dI) vwCl (wX gx ax ++ wM gm am) H) : ∀ q, (toW (rho gx gm) (clA ax) ph0)[4]? = some q → va_at (dC, dI) vwCl q H := fun q hq => by
  cases (toW_at sh_4).symm.trans hq
  exact hP 4 _ rfl
set_option maxRecDepth 100000 in
theorem pb_5 {dC : Nat → ClassId} {dI : Nat → Nat → Nat} {s : State} {gx gm : Nat → Nat} {ax am : Nat → ClassId} {H : Heap} (hK : va_K (dC, dI) vwCl (tX ax ++ tM am) s) (hP : va_P (dC, dI) vwCl (wX gx ax ++ wM gm am) H) : ∀ q, (toW (rho gx gm) (clA ax) ph0)[5]? = some q → va_at (dC, dI) vwCl q H := fun q hq => by
  cases (toW_at sh_5).symm.trans hq
  have z : H[gx 5]? = some (vp_cell (ax 5) (11, .inl (fun _ => 0))) := hP 5 _ rfl
  exact z
set_option maxRecDepth 100000 in
theorem pb_6 {dC : Nat → ClassId} {dI : Nat → Nat → Nat} {s : State} {gx gm : Nat → Nat} {ax am : Nat → ClassId} {H : Heap} (hK : va_K (dC, dI) vwCl (tX ax ++ tM am) s) (hP : va_P (dC, dI) vwCl (wX gx ax ++ wM gm am) H) : ∀ q, (toW (rho gx gm) (clA ax) ph0)[6]? = some q → va_at (dC, dI) vwCl q H := fun q hq => by
  cases (toW_at sh_6).symm.trans hq
  have z : H[gx 6]? = some (vp_cell (ax 6) (6, .inl (fun _ => 0))) := hP 6 _ rfl
  rw [show ax 6 = ax 5 from ra_int (hK.2 2 _ rfl).2 (hK.2 1 _ rfl).2] at z
  exact z
set_option maxRecDepth 100000 in
theorem pb_7 {dC : Nat → ClassId} {dI : Nat → Nat → Nat} {s : State} {gx gm : Nat → Nat} {ax am : Nat → ClassId} {H : Heap} (hK : va_K (dC, dI) vwCl (tX ax ++ tM am) s) (hP : va_P (dC, dI) vwCl (wX gx ax ++ wM gm am) H) : ∀ q, (toW (rho gx gm) (clA ax) ph0)[7]? = some q → va_at (dC, dI) vwCl q H := fun q hq => by
  cases (toW_at sh_7).symm.trans hq
  have z : H[gx 7]? = some (vp_cell (ax 7) (6, .inl (fun _ => 0))) := hP 7 _ rfl
  rw [show ax 7 = ax 5 from ra_int (hK.2 3 _ rfl).2 (hK.2 1 _ rfl).2] at z
  exact z
set_option maxRecDepth 100000 in
theorem pb_8 {dC : Nat → ClassId} {dI : Nat → Nat → Nat} {s : State} {gx gm : Nat → Nat} {ax am : Nat → ClassId} {H : Heap} (hK : va_K (dC, dI) vwCl (tX ax ++ tM am) s) (hP : va_P (dC, dI) vwCl (wX gx ax ++ wM gm am) H) : ∀ q, (toW (rho gx gm) (clA ax) ph0)[8]? = some q → va_at (dC, dI) vwCl q H := fun q hq => by
  cases (toW_at sh_8).symm.trans hq
  have z : H[gx 8]? = some (vp_cell (ax 8) (6, .inl (fun _ => 0))) := hP 8 _ rfl
  rw [show ax 8 = ax 5 from ra_int (hK.2 4 _ rfl).2 (hK.2 1 _ rfl).2] at z
  exact z
set_option maxRecDepth 100000 in
theorem pb_9 {dC : Nat → ClassId} {dI : Nat → Nat → Nat} {s : State} {gx gm : Nat → Nat} {ax am : Nat → ClassId} {H : Heap} (hK : va_K (dC, dI) vwCl (tX ax ++ tM am) s) (hP : va_P (dC, dI) vwCl (wX gx ax ++ wM gm am) H) : ∀ q, (toW (rho gx gm) (clA ax) ph0)[9]? = some q → va_at (dC, dI) vwCl q H := fun q hq => by
  cases (toW_at sh_9).symm.trans hq
  have z : H[gx 9]? = some (vp_cell (ax 9) (6, .inr (.inl (fun _ => 0)))) := hP 9 _ rfl
  exact z
set_option maxRecDepth 100000 in
theorem pb_10 {dC : Nat → ClassId} {dI : Nat → Nat → Nat} {s : State} {gx gm : Nat → Nat} {ax am : Nat → ClassId} {H : Heap} (hK : va_K (dC, dI) vwCl (tX ax ++ tM am) s) (hP : va_P (dC, dI) vwCl (wX gx ax ++ wM gm am) H) : ∀ q, (toW (rho gx gm) (clA ax) ph0)[10]? = some q → va_at (dC, dI) vwCl q H := fun q hq => by
  cases (toW_at sh_10).symm.trans hq
  have z : H[gx 10]? = some (vp_cell (ax 10) (5, .inl (fun _ => 0))) := hP 10 _ rfl
  rw [show ax 10 = ax 5 from ra_int (hK.2 6 _ rfl).2 (hK.2 1 _ rfl).2] at z
  exact z
set_option maxRecDepth 100000 in
theorem pb_11 {dC : Nat → ClassId} {dI : Nat → Nat → Nat} {s : State} {gx gm : Nat → Nat} {ax am : Nat → ClassId} {H : Heap} (hK : va_K (dC, dI) vwCl (tX ax ++ tM am) s) (hP : va_P (dC, dI) vwCl (wX gx ax ++ wM gm am) H) : ∀ q, (toW (rho gx gm) (clA ax) ph0)[11]? = some q → va_at (dC, dI) vwCl q H := fun q hq => by
  cases (toW_at sh_11).symm.trans hq
  have z : H[gx 11]? = some (vp_cell (ax 11) (5, .inl (fun _ => 0))) := hP 11 _ rfl
  rw [show ax 11 = ax 5 from ra_int (hK.2 7 _ rfl).2 (hK.2 1 _ rfl).2] at z
  exact z
set_option maxRecDepth 100000 in
theorem pb_12 {dC : Nat → ClassId} {dI : Nat → Nat → Nat} {s : State} {gx gm : Nat → Nat} {ax am : Nat → ClassId} {H : Heap} (hK : va_K (dC, dI) vwCl (tX ax ++ tM am) s) (hP : va_P (dC, dI) vwCl (wX gx ax ++ wM gm am) H) : ∀ q, (toW (rho gx gm) (clA ax) ph0)[12]? = some q → va_at (dC, dI) vwCl q H := fun q hq => by
  cases (toW_at sh_12).symm.trans hq
  have z : H[gx 12]? = some (vp_cell (ax 12) (5, .inl (fun _ => 0))) := hP 12 _ rfl
  rw [show ax 12 = ax 5 from ra_int (hK.2 8 _ rfl).2 (hK.2 1 _ rfl).2] at z
  exact z
set_option maxRecDepth 100000 in
theorem pb_13 {dC : Nat → ClassId} {dI : Nat → Nat → Nat} {s : State} {gx gm : Nat → Nat} {ax am : Nat → ClassId} {H : Heap} (hK : va_K (dC, dI) vwCl (tX ax ++ tM am) s) (hP : va_P (dC, dI) vwCl (wX gx ax ++ wM gm am) H) : ∀ q, (toW (rho gx gm) (clA ax) ph0)[13]? = some q → va_at (dC, dI) vwCl q H := fun q hq => by
  cases (toW_at sh_13).symm.trans hq
  have z : H[gx 13]? = some (vp_cell (ax 13) (30, .inl (fun _ => 0))) := hP 13 _ rfl
  rw [show ax 13 = ax 5 from ra_int (hK.2 9 _ rfl).2 (hK.2 1 _ rfl).2] at z
  exact z
set_option maxRecDepth 100000 in
theorem pb_14 {dC : Nat → ClassId} {dI : Nat → Nat → Nat} {s : State} {gx gm : Nat → Nat} {ax am : Nat → ClassId} {H : Heap} (hK : va_K (dC, dI) vwCl (tX ax ++ tM am) s) (hP : va_P (dC, dI) vwCl (wX gx ax ++ wM gm am) H) : ∀ q, (toW (rho gx gm) (clA ax) ph0)[14]? = some q → va_at (dC, dI) vwCl q H := fun q hq => by
  cases (toW_at sh_14).symm.trans hq
  have z : H[gx 14]? = some (vp_cell (ax 14) (30, .inl (fun _ => 0))) := hP 14 _ rfl
  rw [show ax 14 = ax 5 from ra_int (hK.2 10 _ rfl).2 (hK.2 1 _ rfl).2] at z
  exact z
set_option maxRecDepth 100000 in
theorem pb_15 {dC : Nat → ClassId} {dI : Nat → Nat → Nat} {s : State} {gx gm : Nat → Nat} {ax am : Nat → ClassId} {H : Heap} (hK : va_K (dC, dI) vwCl (tX ax ++ tM am) s) (hP : va_P (dC, dI) vwCl (wX gx ax ++ wM gm am) H) : ∀ q, (toW (rho gx gm) (clA ax) ph0)[15]? = some q → va_at (dC, dI) vwCl q H := fun q hq => by
  cases (toW_at sh_15).symm.trans hq
  have z : H[gx 15]? = some (vp_cell (ax 15) (30, .inl (fun _ => 0))) := hP 15 _ rfl
  rw [show ax 15 = ax 5 from ra_int (hK.2 11 _ rfl).2 (hK.2 1 _ rfl).2] at z
  exact z
set_option maxRecDepth 100000 in
theorem pb_16 {dC : Nat → ClassId} {dI : Nat → Nat → Nat} {s : State} {gx gm : Nat → Nat} {ax am : Nat → ClassId} {H : Heap} (hK : va_K (dC, dI) vwCl (tX ax ++ tM am) s) (hP : va_P (dC, dI) vwCl (wX gx ax ++ wM gm am) H) : ∀ q, (toW (rho gx gm) (clA ax) ph0)[16]? = some q → va_at (dC, dI) vwCl q H := fun q hq => by
  cases (toW_at sh_16).symm.trans hq
  exact hP 16 _ rfl
set_option maxRecDepth 100000 in
theorem pb_17 {dC : Nat → ClassId} {dI : Nat → Nat → Nat} {s : State} {gx gm : Nat → Nat} {ax am : Nat → ClassId} {H : Heap} (hK : va_K (dC, dI) vwCl (tX ax ++ tM am) s) (hP : va_P (dC, dI) vwCl (wX gx ax ++ wM gm am) H) : ∀ q, (toW (rho gx gm) (clA ax) ph0)[17]? = some q → va_at (dC, dI) vwCl q H := fun q hq => by
  cases (toW_at sh_17).symm.trans hq
  have z : H[gx 17]? = some (vp_cell (ax 17) (11, .inl (fun _ => 0))) := hP 17 _ rfl
  rw [show ax 17 = ax 5 from ra_int (hK.2 12 _ rfl).2 (hK.2 1 _ rfl).2] at z
  exact z
set_option maxRecDepth 100000 in
theorem pb_18 {dC : Nat → ClassId} {dI : Nat → Nat → Nat} {s : State} {gx gm : Nat → Nat} {ax am : Nat → ClassId} {H : Heap} (hK : va_K (dC, dI) vwCl (tX ax ++ tM am) s) (hP : va_P (dC, dI) vwCl (wX gx ax ++ wM gm am) H) : ∀ q, (toW (rho gx gm) (clA ax) ph0)[18]? = some q → va_at (dC, dI) vwCl q H := fun q hq => by
  cases (toW_at sh_18).symm.trans hq
  have z : H[gx 18]? = some (vp_cell (ax 18) (6, .inl (fun _ => 0))) := hP 18 _ rfl
  rw [show ax 18 = ax 5 from ra_int (hK.2 13 _ rfl).2 (hK.2 1 _ rfl).2] at z
  exact z
set_option maxRecDepth 100000 in
theorem pb_19 {dC : Nat → ClassId} {dI : Nat → Nat → Nat} {s : State} {gx gm : Nat → Nat} {ax am : Nat → ClassId} {H : Heap} (hK : va_K (dC, dI) vwCl (tX ax ++ tM am) s) (hP : va_P (dC, dI) vwCl (wX gx ax ++ wM gm am) H) : ∀ q, (toW (rho gx gm) (clA ax) ph0)[19]? = some q → va_at (dC, dI) vwCl q H := fun q hq => by
  cases (toW_at sh_19).symm.trans hq
  have z : H[gx 19]? = some (vp_cell (ax 19) (6, .inl (fun _ => 0))) := hP 19 _ rfl
  rw [show ax 19 = ax 5 from ra_int (hK.2 14 _ rfl).2 (hK.2 1 _ rfl).2] at z
  exact z
set_option maxRecDepth 100000 in
theorem pb_20 {dC : Nat → ClassId} {dI : Nat → Nat → Nat} {s : State} {gx gm : Nat → Nat} {ax am : Nat → ClassId} {H : Heap} (hK : va_K (dC, dI) vwCl (tX ax ++ tM am) s) (hP : va_P (dC, dI) vwCl (wX gx ax ++ wM gm am) H) : ∀ q, (toW (rho gx gm) (clA ax) ph0)[20]? = some q → va_at (dC, dI) vwCl q H := fun q hq => by
  cases (toW_at sh_20).symm.trans hq
  have z : H[gx 20]? = some (vp_cell (ax 20) (6, .inl (fun _ => 0))) := hP 20 _ rfl
  rw [show ax 20 = ax 5 from ra_int (hK.2 15 _ rfl).2 (hK.2 1 _ rfl).2] at z
  exact z
set_option maxRecDepth 100000 in
theorem pb_21 {dC : Nat → ClassId} {dI : Nat → Nat → Nat} {s : State} {gx gm : Nat → Nat} {ax am : Nat → ClassId} {H : Heap} (hK : va_K (dC, dI) vwCl (tX ax ++ tM am) s) (hP : va_P (dC, dI) vwCl (wX gx ax ++ wM gm am) H) : ∀ q, (toW (rho gx gm) (clA ax) ph0)[21]? = some q → va_at (dC, dI) vwCl q H := fun q hq => by
  cases (toW_at sh_21).symm.trans hq
  have z : H[gx 21]? = some (vp_cell (ax 21) (6, .inr (.inl (fun _ => 0)))) := hP 21 _ rfl
  rw [show ax 21 = ax 9 from ra_long (hK.2 16 _ rfl).2 (hK.2 5 _ rfl).2] at z
  exact z
set_option maxRecDepth 100000 in
theorem pb_22 {dC : Nat → ClassId} {dI : Nat → Nat → Nat} {s : State} {gx gm : Nat → Nat} {ax am : Nat → ClassId} {H : Heap} (hK : va_K (dC, dI) vwCl (tX ax ++ tM am) s) (hP : va_P (dC, dI) vwCl (wX gx ax ++ wM gm am) H) : ∀ q, (toW (rho gx gm) (clA ax) ph0)[22]? = some q → va_at (dC, dI) vwCl q H := fun q hq => by
  cases (toW_at sh_22).symm.trans hq
  have z : H[gx 22]? = some (vp_cell (ax 22) (5, .inl (fun _ => 0))) := hP 22 _ rfl
  rw [show ax 22 = ax 5 from ra_int (hK.2 17 _ rfl).2 (hK.2 1 _ rfl).2] at z
  exact z
set_option maxRecDepth 100000 in
theorem pb_23 {dC : Nat → ClassId} {dI : Nat → Nat → Nat} {s : State} {gx gm : Nat → Nat} {ax am : Nat → ClassId} {H : Heap} (hK : va_K (dC, dI) vwCl (tX ax ++ tM am) s) (hP : va_P (dC, dI) vwCl (wX gx ax ++ wM gm am) H) : ∀ q, (toW (rho gx gm) (clA ax) ph0)[23]? = some q → va_at (dC, dI) vwCl q H := fun q hq => by
  cases (toW_at sh_23).symm.trans hq
  have z : H[gx 23]? = some (vp_cell (ax 23) (5, .inl (fun _ => 0))) := hP 23 _ rfl
  rw [show ax 23 = ax 5 from ra_int (hK.2 18 _ rfl).2 (hK.2 1 _ rfl).2] at z
  exact z
set_option maxRecDepth 100000 in
theorem pb_24 {dC : Nat → ClassId} {dI : Nat → Nat → Nat} {s : State} {gx gm : Nat → Nat} {ax am : Nat → ClassId} {H : Heap} (hK : va_K (dC, dI) vwCl (tX ax ++ tM am) s) (hP : va_P (dC, dI) vwCl (wX gx ax ++ wM gm am) H) : ∀ q, (toW (rho gx gm) (clA ax) ph0)[24]? = some q → va_at (dC, dI) vwCl q H := fun q hq => by
  cases (toW_at sh_24).symm.trans hq
  have z : H[gx 24]? = some (vp_cell (ax 24) (5, .inl (fun _ => 0))) := hP 24 _ rfl
  rw [show ax 24 = ax 5 from ra_int (hK.2 19 _ rfl).2 (hK.2 1 _ rfl).2] at z
  exact z
set_option maxRecDepth 100000 in
theorem pb_25 {dC : Nat → ClassId} {dI : Nat → Nat → Nat} {s : State} {gx gm : Nat → Nat} {ax am : Nat → ClassId} {H : Heap} (hK : va_K (dC, dI) vwCl (tX ax ++ tM am) s) (hP : va_P (dC, dI) vwCl (wX gx ax ++ wM gm am) H) : ∀ q, (toW (rho gx gm) (clA ax) ph0)[25]? = some q → va_at (dC, dI) vwCl q H := fun q hq => by
  cases (toW_at sh_25).symm.trans hq
  have z : H[gx 25]? = some (vp_cell (ax 25) (30, .inl (fun _ => 0))) := hP 25 _ rfl
  rw [show ax 25 = ax 5 from ra_int (hK.2 20 _ rfl).2 (hK.2 1 _ rfl).2] at z
  exact z
set_option maxRecDepth 100000 in
theorem pb_26 {dC : Nat → ClassId} {dI : Nat → Nat → Nat} {s : State} {gx gm : Nat → Nat} {ax am : Nat → ClassId} {H : Heap} (hK : va_K (dC, dI) vwCl (tX ax ++ tM am) s) (hP : va_P (dC, dI) vwCl (wX gx ax ++ wM gm am) H) : ∀ q, (toW (rho gx gm) (clA ax) ph0)[26]? = some q → va_at (dC, dI) vwCl q H := fun q hq => by
  cases (toW_at sh_26).symm.trans hq
  have z : H[gx 26]? = some (vp_cell (ax 26) (30, .inl (fun _ => 0))) := hP 26 _ rfl
  rw [show ax 26 = ax 5 from ra_int (hK.2 21 _ rfl).2 (hK.2 1 _ rfl).2] at z
  exact z
set_option maxRecDepth 100000 in
theorem pb_27 {dC : Nat → ClassId} {dI : Nat → Nat → Nat} {s : State} {gx gm : Nat → Nat} {ax am : Nat → ClassId} {H : Heap} (hK : va_K (dC, dI) vwCl (tX ax ++ tM am) s) (hP : va_P (dC, dI) vwCl (wX gx ax ++ wM gm am) H) : ∀ q, (toW (rho gx gm) (clA ax) ph0)[27]? = some q → va_at (dC, dI) vwCl q H := fun q hq => by
  cases (toW_at sh_27).symm.trans hq
  have z : H[gx 27]? = some (vp_cell (ax 27) (30, .inl (fun _ => 0))) := hP 27 _ rfl
  rw [show ax 27 = ax 5 from ra_int (hK.2 22 _ rfl).2 (hK.2 1 _ rfl).2] at z
  exact z
set_option maxRecDepth 100000 in
theorem pb_28 {dC : Nat → ClassId} {dI : Nat → Nat → Nat} {s : State} {gx gm : Nat → Nat} {ax am : Nat → ClassId} {H : Heap} (hK : va_K (dC, dI) vwCl (tX ax ++ tM am) s) (hP : va_P (dC, dI) vwCl (wX gx ax ++ wM gm am) H) : ∀ q, (toW (rho gx gm) (clA ax) ph0)[28]? = some q → va_at (dC, dI) vwCl q H := fun q hq => by
  cases (toW_at sh_28).symm.trans hq
  exact hP 28 _ rfl
set_option maxRecDepth 100000 in
theorem pb_29 {dC : Nat → ClassId} {dI : Nat → Nat → Nat} {s : State} {gx gm : Nat → Nat} {ax am : Nat → ClassId} {H : Heap} (hK : va_K (dC, dI) vwCl (tX ax ++ tM am) s) (hP : va_P (dC, dI) vwCl (wX gx ax ++ wM gm am) H) : ∀ q, (toW (rho gx gm) (clA ax) ph0)[29]? = some q → va_at (dC, dI) vwCl q H := fun q hq => by
  cases (toW_at sh_29).symm.trans hq
  have z : H[gx 29]? = some (vp_cell (ax 29) (11, .inl (fun _ => 0))) := hP 29 _ rfl
  rw [show ax 29 = ax 5 from ra_int (hK.2 23 _ rfl).2 (hK.2 1 _ rfl).2] at z
  exact z
set_option maxRecDepth 100000 in
theorem pb_30 {dC : Nat → ClassId} {dI : Nat → Nat → Nat} {s : State} {gx gm : Nat → Nat} {ax am : Nat → ClassId} {H : Heap} (hK : va_K (dC, dI) vwCl (tX ax ++ tM am) s) (hP : va_P (dC, dI) vwCl (wX gx ax ++ wM gm am) H) : ∀ q, (toW (rho gx gm) (clA ax) ph0)[30]? = some q → va_at (dC, dI) vwCl q H := fun q hq => by
  cases (toW_at sh_30).symm.trans hq
  have z : H[gx 30]? = some (vp_cell (ax 30) (6, .inl (fun _ => 0))) := hP 30 _ rfl
  rw [show ax 30 = ax 5 from ra_int (hK.2 24 _ rfl).2 (hK.2 1 _ rfl).2] at z
  exact z
set_option maxRecDepth 100000 in
theorem pb_31 {dC : Nat → ClassId} {dI : Nat → Nat → Nat} {s : State} {gx gm : Nat → Nat} {ax am : Nat → ClassId} {H : Heap} (hK : va_K (dC, dI) vwCl (tX ax ++ tM am) s) (hP : va_P (dC, dI) vwCl (wX gx ax ++ wM gm am) H) : ∀ q, (toW (rho gx gm) (clA ax) ph0)[31]? = some q → va_at (dC, dI) vwCl q H := fun q hq => by
  cases (toW_at sh_31).symm.trans hq
  have z : H[gx 31]? = some (vp_cell (ax 31) (6, .inl (fun _ => 0))) := hP 31 _ rfl
  rw [show ax 31 = ax 5 from ra_int (hK.2 25 _ rfl).2 (hK.2 1 _ rfl).2] at z
  exact z
set_option maxRecDepth 100000 in
theorem pb_32 {dC : Nat → ClassId} {dI : Nat → Nat → Nat} {s : State} {gx gm : Nat → Nat} {ax am : Nat → ClassId} {H : Heap} (hK : va_K (dC, dI) vwCl (tX ax ++ tM am) s) (hP : va_P (dC, dI) vwCl (wX gx ax ++ wM gm am) H) : ∀ q, (toW (rho gx gm) (clA ax) ph0)[32]? = some q → va_at (dC, dI) vwCl q H := fun q hq => by
  cases (toW_at sh_32).symm.trans hq
  have z : H[gx 32]? = some (vp_cell (ax 32) (6, .inl (fun _ => 0))) := hP 32 _ rfl
  rw [show ax 32 = ax 5 from ra_int (hK.2 26 _ rfl).2 (hK.2 1 _ rfl).2] at z
  exact z
set_option maxRecDepth 100000 in
theorem pb_33 {dC : Nat → ClassId} {dI : Nat → Nat → Nat} {s : State} {gx gm : Nat → Nat} {ax am : Nat → ClassId} {H : Heap} (hK : va_K (dC, dI) vwCl (tX ax ++ tM am) s) (hP : va_P (dC, dI) vwCl (wX gx ax ++ wM gm am) H) : ∀ q, (toW (rho gx gm) (clA ax) ph0)[33]? = some q → va_at (dC, dI) vwCl q H := fun q hq => by
  cases (toW_at sh_33).symm.trans hq
  have z : H[gx 33]? = some (vp_cell (ax 33) (6, .inr (.inl (fun _ => 0)))) := hP 33 _ rfl
  rw [show ax 33 = ax 9 from ra_long (hK.2 27 _ rfl).2 (hK.2 5 _ rfl).2] at z
  exact z
set_option maxRecDepth 100000 in
theorem pb_34 {dC : Nat → ClassId} {dI : Nat → Nat → Nat} {s : State} {gx gm : Nat → Nat} {ax am : Nat → ClassId} {H : Heap} (hK : va_K (dC, dI) vwCl (tX ax ++ tM am) s) (hP : va_P (dC, dI) vwCl (wX gx ax ++ wM gm am) H) : ∀ q, (toW (rho gx gm) (clA ax) ph0)[34]? = some q → va_at (dC, dI) vwCl q H := fun q hq => by
  cases (toW_at sh_34).symm.trans hq
  have z : H[gx 34]? = some (vp_cell (ax 34) (5, .inl (fun _ => 0))) := hP 34 _ rfl
  rw [show ax 34 = ax 5 from ra_int (hK.2 28 _ rfl).2 (hK.2 1 _ rfl).2] at z
  exact z
set_option maxRecDepth 100000 in
theorem pb_35 {dC : Nat → ClassId} {dI : Nat → Nat → Nat} {s : State} {gx gm : Nat → Nat} {ax am : Nat → ClassId} {H : Heap} (hK : va_K (dC, dI) vwCl (tX ax ++ tM am) s) (hP : va_P (dC, dI) vwCl (wX gx ax ++ wM gm am) H) : ∀ q, (toW (rho gx gm) (clA ax) ph0)[35]? = some q → va_at (dC, dI) vwCl q H := fun q hq => by
  cases (toW_at sh_35).symm.trans hq
  have z : H[gx 35]? = some (vp_cell (ax 35) (5, .inl (fun _ => 0))) := hP 35 _ rfl
  rw [show ax 35 = ax 5 from ra_int (hK.2 29 _ rfl).2 (hK.2 1 _ rfl).2] at z
  exact z
set_option maxRecDepth 100000 in
theorem pb_36 {dC : Nat → ClassId} {dI : Nat → Nat → Nat} {s : State} {gx gm : Nat → Nat} {ax am : Nat → ClassId} {H : Heap} (hK : va_K (dC, dI) vwCl (tX ax ++ tM am) s) (hP : va_P (dC, dI) vwCl (wX gx ax ++ wM gm am) H) : ∀ q, (toW (rho gx gm) (clA ax) ph0)[36]? = some q → va_at (dC, dI) vwCl q H := fun q hq => by
  cases (toW_at sh_36).symm.trans hq
  have z : H[gx 36]? = some (vp_cell (ax 36) (5, .inl (fun _ => 0))) := hP 36 _ rfl
  rw [show ax 36 = ax 5 from ra_int (hK.2 30 _ rfl).2 (hK.2 1 _ rfl).2] at z
  exact z
set_option maxRecDepth 100000 in
theorem pb_37 {dC : Nat → ClassId} {dI : Nat → Nat → Nat} {s : State} {gx gm : Nat → Nat} {ax am : Nat → ClassId} {H : Heap} (hK : va_K (dC, dI) vwCl (tX ax ++ tM am) s) (hP : va_P (dC, dI) vwCl (wX gx ax ++ wM gm am) H) : ∀ q, (toW (rho gx gm) (clA ax) ph0)[37]? = some q → va_at (dC, dI) vwCl q H := fun q hq => by
  cases (toW_at sh_37).symm.trans hq
  have z : H[gx 37]? = some (vp_cell (ax 37) (30, .inl (fun _ => 0))) := hP 37 _ rfl
  rw [show ax 37 = ax 5 from ra_int (hK.2 31 _ rfl).2 (hK.2 1 _ rfl).2] at z
  exact z
set_option maxRecDepth 100000 in
theorem pb_38 {dC : Nat → ClassId} {dI : Nat → Nat → Nat} {s : State} {gx gm : Nat → Nat} {ax am : Nat → ClassId} {H : Heap} (hK : va_K (dC, dI) vwCl (tX ax ++ tM am) s) (hP : va_P (dC, dI) vwCl (wX gx ax ++ wM gm am) H) : ∀ q, (toW (rho gx gm) (clA ax) ph0)[38]? = some q → va_at (dC, dI) vwCl q H := fun q hq => by
  cases (toW_at sh_38).symm.trans hq
  have z : H[gx 38]? = some (vp_cell (ax 38) (30, .inl (fun _ => 0))) := hP 38 _ rfl
  rw [show ax 38 = ax 5 from ra_int (hK.2 32 _ rfl).2 (hK.2 1 _ rfl).2] at z
  exact z
set_option maxRecDepth 100000 in
theorem pb_39 {dC : Nat → ClassId} {dI : Nat → Nat → Nat} {s : State} {gx gm : Nat → Nat} {ax am : Nat → ClassId} {H : Heap} (hK : va_K (dC, dI) vwCl (tX ax ++ tM am) s) (hP : va_P (dC, dI) vwCl (wX gx ax ++ wM gm am) H) : ∀ q, (toW (rho gx gm) (clA ax) ph0)[39]? = some q → va_at (dC, dI) vwCl q H := fun q hq => by
  cases (toW_at sh_39).symm.trans hq
  have z : H[gx 39]? = some (vp_cell (ax 39) (30, .inl (fun _ => 0))) := hP 39 _ rfl
  rw [show ax 39 = ax 5 from ra_int (hK.2 33 _ rfl).2 (hK.2 1 _ rfl).2] at z
  exact z
set_option maxRecDepth 100000 in
theorem pb_40 {dC : Nat → ClassId} {dI : Nat → Nat → Nat} {s : State} {gx gm : Nat → Nat} {ax am : Nat → ClassId} {H : Heap} (hK : va_K (dC, dI) vwCl (tX ax ++ tM am) s) (hP : va_P (dC, dI) vwCl (wX gx ax ++ wM gm am) H) : ∀ q, (toW (rho gx gm) (clA ax) ph0)[40]? = some q → va_at (dC, dI) vwCl q H := fun q hq => by
  cases (toW_at sh_40).symm.trans hq
  exact hP 40 _ rfl
set_option maxRecDepth 100000 in
theorem pb_41 {dC : Nat → ClassId} {dI : Nat → Nat → Nat} {s : State} {gx gm : Nat → Nat} {ax am : Nat → ClassId} {H : Heap} (hK : va_K (dC, dI) vwCl (tX ax ++ tM am) s) (hP : va_P (dC, dI) vwCl (wX gx ax ++ wM gm am) H) : ∀ q, (toW (rho gx gm) (clA ax) ph0)[41]? = some q → va_at (dC, dI) vwCl q H := fun q hq => by
  cases (toW_at sh_41).symm.trans hq
  have z : H[gx 41]? = some (vp_cell (ax 41) (11, .inl (fun _ => 0))) := hP 41 _ rfl
  rw [show ax 41 = ax 5 from ra_int (hK.2 34 _ rfl).2 (hK.2 1 _ rfl).2] at z
  exact z
set_option maxRecDepth 100000 in
theorem pb_42 {dC : Nat → ClassId} {dI : Nat → Nat → Nat} {s : State} {gx gm : Nat → Nat} {ax am : Nat → ClassId} {H : Heap} (hK : va_K (dC, dI) vwCl (tX ax ++ tM am) s) (hP : va_P (dC, dI) vwCl (wX gx ax ++ wM gm am) H) : ∀ q, (toW (rho gx gm) (clA ax) ph0)[42]? = some q → va_at (dC, dI) vwCl q H := fun q hq => by
  cases (toW_at sh_42).symm.trans hq
  have z : H[gx 42]? = some (vp_cell (ax 42) (6, .inl (fun _ => 0))) := hP 42 _ rfl
  rw [show ax 42 = ax 5 from ra_int (hK.2 35 _ rfl).2 (hK.2 1 _ rfl).2] at z
  exact z
set_option maxRecDepth 100000 in
theorem pb_43 {dC : Nat → ClassId} {dI : Nat → Nat → Nat} {s : State} {gx gm : Nat → Nat} {ax am : Nat → ClassId} {H : Heap} (hK : va_K (dC, dI) vwCl (tX ax ++ tM am) s) (hP : va_P (dC, dI) vwCl (wX gx ax ++ wM gm am) H) : ∀ q, (toW (rho gx gm) (clA ax) ph0)[43]? = some q → va_at (dC, dI) vwCl q H := fun q hq => by
  cases (toW_at sh_43).symm.trans hq
  have z : H[gx 43]? = some (vp_cell (ax 43) (6, .inl (fun _ => 0))) := hP 43 _ rfl
  rw [show ax 43 = ax 5 from ra_int (hK.2 36 _ rfl).2 (hK.2 1 _ rfl).2] at z
  exact z
set_option maxRecDepth 100000 in
theorem pb_44 {dC : Nat → ClassId} {dI : Nat → Nat → Nat} {s : State} {gx gm : Nat → Nat} {ax am : Nat → ClassId} {H : Heap} (hK : va_K (dC, dI) vwCl (tX ax ++ tM am) s) (hP : va_P (dC, dI) vwCl (wX gx ax ++ wM gm am) H) : ∀ q, (toW (rho gx gm) (clA ax) ph0)[44]? = some q → va_at (dC, dI) vwCl q H := fun q hq => by
  cases (toW_at sh_44).symm.trans hq
  have z : H[gx 44]? = some (vp_cell (ax 44) (6, .inl (fun _ => 0))) := hP 44 _ rfl
  rw [show ax 44 = ax 5 from ra_int (hK.2 37 _ rfl).2 (hK.2 1 _ rfl).2] at z
  exact z
set_option maxRecDepth 100000 in
theorem pb_45 {dC : Nat → ClassId} {dI : Nat → Nat → Nat} {s : State} {gx gm : Nat → Nat} {ax am : Nat → ClassId} {H : Heap} (hK : va_K (dC, dI) vwCl (tX ax ++ tM am) s) (hP : va_P (dC, dI) vwCl (wX gx ax ++ wM gm am) H) : ∀ q, (toW (rho gx gm) (clA ax) ph0)[45]? = some q → va_at (dC, dI) vwCl q H := fun q hq => by
  cases (toW_at sh_45).symm.trans hq
  have z : H[gx 45]? = some (vp_cell (ax 45) (6, .inr (.inl (fun _ => 0)))) := hP 45 _ rfl
  rw [show ax 45 = ax 9 from ra_long (hK.2 38 _ rfl).2 (hK.2 5 _ rfl).2] at z
  exact z
set_option maxRecDepth 100000 in
theorem pb_46 {dC : Nat → ClassId} {dI : Nat → Nat → Nat} {s : State} {gx gm : Nat → Nat} {ax am : Nat → ClassId} {H : Heap} (hK : va_K (dC, dI) vwCl (tX ax ++ tM am) s) (hP : va_P (dC, dI) vwCl (wX gx ax ++ wM gm am) H) : ∀ q, (toW (rho gx gm) (clA ax) ph0)[46]? = some q → va_at (dC, dI) vwCl q H := fun q hq => by
  cases (toW_at sh_46).symm.trans hq
  have z : H[gx 46]? = some (vp_cell (ax 46) (5, .inl (fun _ => 0))) := hP 46 _ rfl
  rw [show ax 46 = ax 5 from ra_int (hK.2 39 _ rfl).2 (hK.2 1 _ rfl).2] at z
  exact z
set_option maxRecDepth 100000 in
theorem pb_47 {dC : Nat → ClassId} {dI : Nat → Nat → Nat} {s : State} {gx gm : Nat → Nat} {ax am : Nat → ClassId} {H : Heap} (hK : va_K (dC, dI) vwCl (tX ax ++ tM am) s) (hP : va_P (dC, dI) vwCl (wX gx ax ++ wM gm am) H) : ∀ q, (toW (rho gx gm) (clA ax) ph0)[47]? = some q → va_at (dC, dI) vwCl q H := fun q hq => by
  cases (toW_at sh_47).symm.trans hq
  have z : H[gx 47]? = some (vp_cell (ax 47) (5, .inl (fun _ => 0))) := hP 47 _ rfl
  rw [show ax 47 = ax 5 from ra_int (hK.2 40 _ rfl).2 (hK.2 1 _ rfl).2] at z
  exact z
set_option maxRecDepth 100000 in
theorem pb_48 {dC : Nat → ClassId} {dI : Nat → Nat → Nat} {s : State} {gx gm : Nat → Nat} {ax am : Nat → ClassId} {H : Heap} (hK : va_K (dC, dI) vwCl (tX ax ++ tM am) s) (hP : va_P (dC, dI) vwCl (wX gx ax ++ wM gm am) H) : ∀ q, (toW (rho gx gm) (clA ax) ph0)[48]? = some q → va_at (dC, dI) vwCl q H := fun q hq => by
  cases (toW_at sh_48).symm.trans hq
  have z : H[gx 48]? = some (vp_cell (ax 48) (5, .inl (fun _ => 0))) := hP 48 _ rfl
  rw [show ax 48 = ax 5 from ra_int (hK.2 41 _ rfl).2 (hK.2 1 _ rfl).2] at z
  exact z
set_option maxRecDepth 100000 in
theorem pb_49 {dC : Nat → ClassId} {dI : Nat → Nat → Nat} {s : State} {gx gm : Nat → Nat} {ax am : Nat → ClassId} {H : Heap} (hK : va_K (dC, dI) vwCl (tX ax ++ tM am) s) (hP : va_P (dC, dI) vwCl (wX gx ax ++ wM gm am) H) : ∀ q, (toW (rho gx gm) (clA ax) ph0)[49]? = some q → va_at (dC, dI) vwCl q H := fun q hq => by
  cases (toW_at sh_49).symm.trans hq
  have z : H[gx 49]? = some (vp_cell (ax 49) (30, .inl (fun _ => 0))) := hP 49 _ rfl
  rw [show ax 49 = ax 5 from ra_int (hK.2 42 _ rfl).2 (hK.2 1 _ rfl).2] at z
  exact z
set_option maxRecDepth 100000 in
theorem pb_50 {dC : Nat → ClassId} {dI : Nat → Nat → Nat} {s : State} {gx gm : Nat → Nat} {ax am : Nat → ClassId} {H : Heap} (hK : va_K (dC, dI) vwCl (tX ax ++ tM am) s) (hP : va_P (dC, dI) vwCl (wX gx ax ++ wM gm am) H) : ∀ q, (toW (rho gx gm) (clA ax) ph0)[50]? = some q → va_at (dC, dI) vwCl q H := fun q hq => by
  cases (toW_at sh_50).symm.trans hq
  have z : H[gx 50]? = some (vp_cell (ax 50) (30, .inl (fun _ => 0))) := hP 50 _ rfl
  rw [show ax 50 = ax 5 from ra_int (hK.2 43 _ rfl).2 (hK.2 1 _ rfl).2] at z
  exact z
set_option maxRecDepth 100000 in
theorem pb_51 {dC : Nat → ClassId} {dI : Nat → Nat → Nat} {s : State} {gx gm : Nat → Nat} {ax am : Nat → ClassId} {H : Heap} (hK : va_K (dC, dI) vwCl (tX ax ++ tM am) s) (hP : va_P (dC, dI) vwCl (wX gx ax ++ wM gm am) H) : ∀ q, (toW (rho gx gm) (clA ax) ph0)[51]? = some q → va_at (dC, dI) vwCl q H := fun q hq => by
  cases (toW_at sh_51).symm.trans hq
  have z : H[gx 51]? = some (vp_cell (ax 51) (30, .inl (fun _ => 0))) := hP 51 _ rfl
  rw [show ax 51 = ax 5 from ra_int (hK.2 44 _ rfl).2 (hK.2 1 _ rfl).2] at z
  exact z
set_option maxRecDepth 100000 in
theorem pb_52 {dC : Nat → ClassId} {dI : Nat → Nat → Nat} {s : State} {gx gm : Nat → Nat} {ax am : Nat → ClassId} {H : Heap} (hK : va_K (dC, dI) vwCl (tX ax ++ tM am) s) (hP : va_P (dC, dI) vwCl (wX gx ax ++ wM gm am) H) : ∀ q, (toW (rho gx gm) (clA ax) ph0)[52]? = some q → va_at (dC, dI) vwCl q H := fun q hq => by
  cases (toW_at sh_52).symm.trans hq
  exact hP 52 _ rfl
set_option maxRecDepth 100000 in
theorem pb_53 {dC : Nat → ClassId} {dI : Nat → Nat → Nat} {s : State} {gx gm : Nat → Nat} {ax am : Nat → ClassId} {H : Heap} (hK : va_K (dC, dI) vwCl (tX ax ++ tM am) s) (hP : va_P (dC, dI) vwCl (wX gx ax ++ wM gm am) H) : ∀ q, (toW (rho gx gm) (clA ax) ph0)[53]? = some q → va_at (dC, dI) vwCl q H := fun q hq => by
  cases (toW_at sh_53).symm.trans hq
  have z : H[gx 53]? = some (vp_cell (ax 53) (11, .inl (fun _ => 0))) := hP 53 _ rfl
  rw [show ax 53 = ax 5 from ra_int (hK.2 45 _ rfl).2 (hK.2 1 _ rfl).2] at z
  exact z
set_option maxRecDepth 100000 in
theorem pb_54 {dC : Nat → ClassId} {dI : Nat → Nat → Nat} {s : State} {gx gm : Nat → Nat} {ax am : Nat → ClassId} {H : Heap} (hK : va_K (dC, dI) vwCl (tX ax ++ tM am) s) (hP : va_P (dC, dI) vwCl (wX gx ax ++ wM gm am) H) : ∀ q, (toW (rho gx gm) (clA ax) ph0)[54]? = some q → va_at (dC, dI) vwCl q H := fun q hq => by
  cases (toW_at sh_54).symm.trans hq
  have z : H[gx 54]? = some (vp_cell (ax 54) (6, .inl (fun _ => 0))) := hP 54 _ rfl
  rw [show ax 54 = ax 5 from ra_int (hK.2 46 _ rfl).2 (hK.2 1 _ rfl).2] at z
  exact z
set_option maxRecDepth 100000 in
theorem pb_55 {dC : Nat → ClassId} {dI : Nat → Nat → Nat} {s : State} {gx gm : Nat → Nat} {ax am : Nat → ClassId} {H : Heap} (hK : va_K (dC, dI) vwCl (tX ax ++ tM am) s) (hP : va_P (dC, dI) vwCl (wX gx ax ++ wM gm am) H) : ∀ q, (toW (rho gx gm) (clA ax) ph0)[55]? = some q → va_at (dC, dI) vwCl q H := fun q hq => by
  cases (toW_at sh_55).symm.trans hq
  have z : H[gx 55]? = some (vp_cell (ax 55) (6, .inl (fun _ => 0))) := hP 55 _ rfl
  rw [show ax 55 = ax 5 from ra_int (hK.2 47 _ rfl).2 (hK.2 1 _ rfl).2] at z
  exact z
set_option maxRecDepth 100000 in
theorem pb_56 {dC : Nat → ClassId} {dI : Nat → Nat → Nat} {s : State} {gx gm : Nat → Nat} {ax am : Nat → ClassId} {H : Heap} (hK : va_K (dC, dI) vwCl (tX ax ++ tM am) s) (hP : va_P (dC, dI) vwCl (wX gx ax ++ wM gm am) H) : ∀ q, (toW (rho gx gm) (clA ax) ph0)[56]? = some q → va_at (dC, dI) vwCl q H := fun q hq => by
  cases (toW_at sh_56).symm.trans hq
  have z : H[gx 56]? = some (vp_cell (ax 56) (6, .inl (fun _ => 0))) := hP 56 _ rfl
  rw [show ax 56 = ax 5 from ra_int (hK.2 48 _ rfl).2 (hK.2 1 _ rfl).2] at z
  exact z
set_option maxRecDepth 100000 in
theorem pb_57 {dC : Nat → ClassId} {dI : Nat → Nat → Nat} {s : State} {gx gm : Nat → Nat} {ax am : Nat → ClassId} {H : Heap} (hK : va_K (dC, dI) vwCl (tX ax ++ tM am) s) (hP : va_P (dC, dI) vwCl (wX gx ax ++ wM gm am) H) : ∀ q, (toW (rho gx gm) (clA ax) ph0)[57]? = some q → va_at (dC, dI) vwCl q H := fun q hq => by
  cases (toW_at sh_57).symm.trans hq
  have z : H[gx 57]? = some (vp_cell (ax 57) (6, .inr (.inl (fun _ => 0)))) := hP 57 _ rfl
  rw [show ax 57 = ax 9 from ra_long (hK.2 49 _ rfl).2 (hK.2 5 _ rfl).2] at z
  exact z
set_option maxRecDepth 100000 in
theorem pb_58 {dC : Nat → ClassId} {dI : Nat → Nat → Nat} {s : State} {gx gm : Nat → Nat} {ax am : Nat → ClassId} {H : Heap} (hK : va_K (dC, dI) vwCl (tX ax ++ tM am) s) (hP : va_P (dC, dI) vwCl (wX gx ax ++ wM gm am) H) : ∀ q, (toW (rho gx gm) (clA ax) ph0)[58]? = some q → va_at (dC, dI) vwCl q H := fun q hq => by
  cases (toW_at sh_58).symm.trans hq
  have z : H[gx 58]? = some (vp_cell (ax 58) (5, .inl (fun _ => 0))) := hP 58 _ rfl
  rw [show ax 58 = ax 5 from ra_int (hK.2 50 _ rfl).2 (hK.2 1 _ rfl).2] at z
  exact z
set_option maxRecDepth 100000 in
theorem pb_59 {dC : Nat → ClassId} {dI : Nat → Nat → Nat} {s : State} {gx gm : Nat → Nat} {ax am : Nat → ClassId} {H : Heap} (hK : va_K (dC, dI) vwCl (tX ax ++ tM am) s) (hP : va_P (dC, dI) vwCl (wX gx ax ++ wM gm am) H) : ∀ q, (toW (rho gx gm) (clA ax) ph0)[59]? = some q → va_at (dC, dI) vwCl q H := fun q hq => by
  cases (toW_at sh_59).symm.trans hq
  have z : H[gx 59]? = some (vp_cell (ax 59) (5, .inl (fun _ => 0))) := hP 59 _ rfl
  rw [show ax 59 = ax 5 from ra_int (hK.2 51 _ rfl).2 (hK.2 1 _ rfl).2] at z
  exact z
