set_option maxRecDepth 100000 in
theorem pb_60 {dC : Nat → ClassId} {dI : Nat → Nat → Nat} {s : State} {gx gm : Nat → Nat} {ax am : Nat → ClassId} {H : Heap} (hK : va_K (dC, dI) vwCl (tX ax ++ tM am) s) (hP : va_P (dC, dI) vwCl (wX gx ax ++ wM gm am) H) : ∀ q, (toW (rho gx gm) (clA ax) ph0)[60]? = some q → va_at (dC, dI) vwCl q H := fun q hq => by
  cases (toW_at sh_60).symm.trans hq
  have z : H[gx 60]? = some (vp_cell (ax 60) (5, .inl (fun _ => 0))) := hP 60 _ rfl
  rw [show ax 60 = ax 5 from ra_int (hK.2 52 _ rfl).2 (hK.2 1 _ rfl).2] at z
  exact z
set_option maxRecDepth 100000 in
theorem pb_61 {dC : Nat → ClassId} {dI : Nat → Nat → Nat} {s : State} {gx gm : Nat → Nat} {ax am : Nat → ClassId} {H : Heap} (hK : va_K (dC, dI) vwCl (tX ax ++ tM am) s) (hP : va_P (dC, dI) vwCl (wX gx ax ++ wM gm am) H) : ∀ q, (toW (rho gx gm) (clA ax) ph0)[61]? = some q → va_at (dC, dI) vwCl q H := fun q hq => by
  cases (toW_at sh_61).symm.trans hq
  have z : H[gx 61]? = some (vp_cell (ax 61) (30, .inl (fun _ => 0))) := hP 61 _ rfl
  rw [show ax 61 = ax 5 from ra_int (hK.2 53 _ rfl).2 (hK.2 1 _ rfl).2] at z
  exact z
set_option maxRecDepth 100000 in
theorem pb_62 {dC : Nat → ClassId} {dI : Nat → Nat → Nat} {s : State} {gx gm : Nat → Nat} {ax am : Nat → ClassId} {H : Heap} (hK : va_K (dC, dI) vwCl (tX ax ++ tM am) s) (hP : va_P (dC, dI) vwCl (wX gx ax ++ wM gm am) H) : ∀ q, (toW (rho gx gm) (clA ax) ph0)[62]? = some q → va_at (dC, dI) vwCl q H := fun q hq => by
  cases (toW_at sh_62).symm.trans hq
  have z : H[gx 62]? = some (vp_cell (ax 62) (30, .inl (fun _ => 0))) := hP 62 _ rfl
  rw [show ax 62 = ax 5 from ra_int (hK.2 54 _ rfl).2 (hK.2 1 _ rfl).2] at z
  exact z
set_option maxRecDepth 100000 in
theorem pb_63 {dC : Nat → ClassId} {dI : Nat → Nat → Nat} {s : State} {gx gm : Nat → Nat} {ax am : Nat → ClassId} {H : Heap} (hK : va_K (dC, dI) vwCl (tX ax ++ tM am) s) (hP : va_P (dC, dI) vwCl (wX gx ax ++ wM gm am) H) : ∀ q, (toW (rho gx gm) (clA ax) ph0)[63]? = some q → va_at (dC, dI) vwCl q H := fun q hq => by
  cases (toW_at sh_63).symm.trans hq
  have z : H[gx 63]? = some (vp_cell (ax 63) (30, .inl (fun _ => 0))) := hP 63 _ rfl
  rw [show ax 63 = ax 5 from ra_int (hK.2 55 _ rfl).2 (hK.2 1 _ rfl).2] at z
  exact z
set_option maxRecDepth 100000 in
theorem pb_64 {dC : Nat → ClassId} {dI : Nat → Nat → Nat} {s : State} {gx gm : Nat → Nat} {ax am : Nat → ClassId} {H : Heap} (hK : va_K (dC, dI) vwCl (tX ax ++ tM am) s) (hP : va_P (dC, dI) vwCl (wX gx ax ++ wM gm am) H) : ∀ q, (toW (rho gx gm) (clA ax) ph0)[64]? = some q → va_at (dC, dI) vwCl q H := fun q hq => by
  cases (toW_at sh_64).symm.trans hq
  have z : H[gx 64]? = some (vp_cell (ax 64) (3, .inr (.inr (.inr (.inr (iF gx)))))) := hP 64 _ rfl
  rw [arr3 (g := fun j => some (rho gx gm (([28, 40, 52] : List Nat).getD j 0))) rfl rfl rfl] at z
  exact z
set_option maxRecDepth 100000 in
theorem pb_65 {dC : Nat → ClassId} {dI : Nat → Nat → Nat} {s : State} {gx gm : Nat → Nat} {ax am : Nat → ClassId} {H : Heap} (hK : va_K (dC, dI) vwCl (tX ax ++ tM am) s) (hP : va_P (dC, dI) vwCl (wX gx ax ++ wM gm am) H) : ∀ q, (toW (rho gx gm) (clA ax) ph0)[65]? = some q → va_at (dC, dI) vwCl q H := fun q hq => by
  cases (toW_at sh_65).symm.trans hq
  have z : H[gx 65]? = some (vp_cell (ax 65) (3, .inl (fun _ => 0))) := hP 65 _ rfl
  exact z
set_option maxRecDepth 100000 in
theorem pb_66 {dC : Nat → ClassId} {dI : Nat → Nat → Nat} {s : State} {gx gm : Nat → Nat} {ax am : Nat → ClassId} {H : Heap} (hK : va_K (dC, dI) vwCl (tX ax ++ tM am) s) (hP : va_P (dC, dI) vwCl (wX gx ax ++ wM gm am) H) : ∀ q, (toW (rho gx gm) (clA ax) ph0)[66]? = some q → va_at (dC, dI) vwCl q H := fun q hq => by
  cases (toW_at sh_66).symm.trans hq
  exact hP 66 _ rfl
set_option maxRecDepth 100000 in
theorem pb_67 {dC : Nat → ClassId} {dI : Nat → Nat → Nat} {s : State} {gx gm : Nat → Nat} {ax am : Nat → ClassId} {H : Heap} (hK : va_K (dC, dI) vwCl (tX ax ++ tM am) s) (hP : va_P (dC, dI) vwCl (wX gx ax ++ wM gm am) H) : ∀ q, (toW (rho gx gm) (clA ax) ph0)[67]? = some q → va_at (dC, dI) vwCl q H := fun q hq => by
  cases (toW_at sh_67).symm.trans hq
  have z : H[gx 67]? = some (vp_cell (ax 67) (240, .inr (.inl (fun _ => 0)))) := hP 67 _ rfl
  rw [show ax 67 = ax 9 from ra_long (hK.2 58 _ rfl).2 (hK.2 5 _ rfl).2] at z
  exact z
set_option maxRecDepth 100000 in
theorem pb_68 {dC : Nat → ClassId} {dI : Nat → Nat → Nat} {s : State} {gx gm : Nat → Nat} {ax am : Nat → ClassId} {H : Heap} (hK : va_K (dC, dI) vwCl (tX ax ++ tM am) s) (hP : va_P (dC, dI) vwCl (wX gx ax ++ wM gm am) H) : ∀ q, (toW (rho gx gm) (clA ax) ph0)[68]? = some q → va_at (dC, dI) vwCl q H := fun q hq => by
  cases (toW_at sh_68).symm.trans hq
  have z : H[gx 68]? = some (vp_cell (ax 68) (4, .inl nF)) := hP 68 _ rfl
  rw [show ax 68 = ax 5 from ra_int (hK.2 59 _ rfl).2 (hK.2 1 _ rfl).2] at z
  exact z
set_option maxRecDepth 100000 in
theorem pb_69 {dC : Nat → ClassId} {dI : Nat → Nat → Nat} {s : State} {gx gm : Nat → Nat} {ax am : Nat → ClassId} {H : Heap} (hK : va_K (dC, dI) vwCl (tX ax ++ tM am) s) (hP : va_P (dC, dI) vwCl (wX gx ax ++ wM gm am) H) : ∀ q, (toW (rho gx gm) (clA ax) ph0)[69]? = some q → va_at (dC, dI) vwCl q H := fun q hq => by
  cases (toW_at sh_69).symm.trans hq
  have z : H[gx 69]? = some (vp_cell (ax 69) (4, .inl (fun _ => 0))) := hP 69 _ rfl
  rw [show ax 69 = ax 5 from ra_int (hK.2 60 _ rfl).2 (hK.2 1 _ rfl).2] at z
  exact z
set_option maxRecDepth 100000 in
theorem pb_70 {dC : Nat → ClassId} {dI : Nat → Nat → Nat} {s : State} {gx gm : Nat → Nat} {ax am : Nat → ClassId} {H : Heap} (hK : va_K (dC, dI) vwCl (tX ax ++ tM am) s) (hP : va_P (dC, dI) vwCl (wX gx ax ++ wM gm am) H) : ∀ q, (toW (rho gx gm) (clA ax) ph0)[70]? = some q → va_at (dC, dI) vwCl q H := fun q hq => by
  cases (toW_at sh_70).symm.trans hq
  exact hP 70 _ rfl
set_option maxRecDepth 100000 in
theorem pb_71 {dC : Nat → ClassId} {dI : Nat → Nat → Nat} {s : State} {gx gm : Nat → Nat} {ax am : Nat → ClassId} {H : Heap} (hK : va_K (dC, dI) vwCl (tX ax ++ tM am) s) (hP : va_P (dC, dI) vwCl (wX gx ax ++ wM gm am) H) : ∀ q, (toW (rho gx gm) (clA ax) ph0)[71]? = some q → va_at (dC, dI) vwCl q H := fun q hq => by
  cases (toW_at sh_71).symm.trans hq
  have z : H[gx 71]? = some (vp_cell (ax 71) (6, .inl (fun _ => 0))) := hP 71 _ rfl
  rw [show ax 71 = ax 5 from ra_int (hK.2 61 _ rfl).2 (hK.2 1 _ rfl).2] at z
  exact z
set_option maxRecDepth 100000 in
theorem pb_72 {dC : Nat → ClassId} {dI : Nat → Nat → Nat} {s : State} {gx gm : Nat → Nat} {ax am : Nat → ClassId} {H : Heap} (hK : va_K (dC, dI) vwCl (tX ax ++ tM am) s) (hP : va_P (dC, dI) vwCl (wX gx ax ++ wM gm am) H) : ∀ q, (toW (rho gx gm) (clA ax) ph0)[72]? = some q → va_at (dC, dI) vwCl q H := fun q hq => by
  cases (toW_at sh_72).symm.trans hq
  have z : H[gx 72]? = some (vp_cell (ax 72) (6, .inl (fun _ => 0))) := hP 72 _ rfl
  rw [show ax 72 = ax 5 from ra_int (hK.2 62 _ rfl).2 (hK.2 1 _ rfl).2] at z
  exact z
set_option maxRecDepth 100000 in
theorem pb_73 {dC : Nat → ClassId} {dI : Nat → Nat → Nat} {s : State} {gx gm : Nat → Nat} {ax am : Nat → ClassId} {H : Heap} (hK : va_K (dC, dI) vwCl (tX ax ++ tM am) s) (hP : va_P (dC, dI) vwCl (wX gx ax ++ wM gm am) H) : ∀ q, (toW (rho gx gm) (clA ax) ph0)[73]? = some q → va_at (dC, dI) vwCl q H := fun q hq => by
  cases (toW_at sh_73).symm.trans hq
  have z : H[gx 73]? = some (vp_cell (ax 73) (6, .inr (.inl (fun _ => 0)))) := hP 73 _ rfl
  rw [show ax 73 = ax 9 from ra_long (hK.2 63 _ rfl).2 (hK.2 5 _ rfl).2] at z
  exact z
set_option maxRecDepth 100000 in
theorem pb_74 {dC : Nat → ClassId} {dI : Nat → Nat → Nat} {s : State} {gx gm : Nat → Nat} {ax am : Nat → ClassId} {H : Heap} (hK : va_K (dC, dI) vwCl (tX ax ++ tM am) s) (hP : va_P (dC, dI) vwCl (wX gx ax ++ wM gm am) H) : ∀ q, (toW (rho gx gm) (clA ax) ph0)[74]? = some q → va_at (dC, dI) vwCl q H := fun q hq => by
  cases (toW_at sh_74).symm.trans hq
  have z : H[gx 74]? = some (vp_cell (ax 74) (6, .inl (fun _ => 0))) := hP 74 _ rfl
  rw [show ax 74 = ax 5 from ra_int (hK.2 64 _ rfl).2 (hK.2 1 _ rfl).2] at z
  exact z
set_option maxRecDepth 100000 in
theorem pb_75 {dC : Nat → ClassId} {dI : Nat → Nat → Nat} {s : State} {gx gm : Nat → Nat} {ax am : Nat → ClassId} {H : Heap} (hK : va_K (dC, dI) vwCl (tX ax ++ tM am) s) (hP : va_P (dC, dI) vwCl (wX gx ax ++ wM gm am) H) : ∀ q, (toW (rho gx gm) (clA ax) ph0)[75]? = some q → va_at (dC, dI) vwCl q H := fun q hq => by
  cases (toW_at sh_75).symm.trans hq
  exact hP 75 _ rfl
set_option maxRecDepth 100000 in
theorem pb_76 {dC : Nat → ClassId} {dI : Nat → Nat → Nat} {s : State} {gx gm : Nat → Nat} {ax am : Nat → ClassId} {H : Heap} (hK : va_K (dC, dI) vwCl (tX ax ++ tM am) s) (hP : va_P (dC, dI) vwCl (wX gx ax ++ wM gm am) H) : ∀ q, (toW (rho gx gm) (clA ax) ph0)[76]? = some q → va_at (dC, dI) vwCl q H := fun q hq => by
  cases (toW_at sh_76).symm.trans hq
  have z : H[gx 76]? = some (vp_cell (ax 76) (360, .inl (fun _ => 0))) := hP 76 _ rfl
  rw [show ax 76 = ax 5 from ra_int (hK.2 65 _ rfl).2 (hK.2 1 _ rfl).2] at z
  exact z
set_option maxRecDepth 100000 in
theorem pb_77 {dC : Nat → ClassId} {dI : Nat → Nat → Nat} {s : State} {gx gm : Nat → Nat} {ax am : Nat → ClassId} {H : Heap} (hK : va_K (dC, dI) vwCl (tX ax ++ tM am) s) (hP : va_P (dC, dI) vwCl (wX gx ax ++ wM gm am) H) : ∀ q, (toW (rho gx gm) (clA ax) ph0)[77]? = some q → va_at (dC, dI) vwCl q H := fun q hq => by
  cases (toW_at sh_77).symm.trans hq
  have z : H[gx 77]? = some (vp_cell (ax 77) (60, .inl (fun _ => 0))) := hP 77 _ rfl
  rw [show ax 77 = ax 5 from ra_int (hK.2 66 _ rfl).2 (hK.2 1 _ rfl).2] at z
  exact z
set_option maxRecDepth 100000 in
theorem pb_78 {dC : Nat → ClassId} {dI : Nat → Nat → Nat} {s : State} {gx gm : Nat → Nat} {ax am : Nat → ClassId} {H : Heap} (hK : va_K (dC, dI) vwCl (tX ax ++ tM am) s) (hP : va_P (dC, dI) vwCl (wX gx ax ++ wM gm am) H) : ∀ q, (toW (rho gx gm) (clA ax) ph0)[78]? = some q → va_at (dC, dI) vwCl q H := fun q hq => by
  cases (toW_at sh_78).symm.trans hq
  have z : H[gx 78]? = some (vp_cell (ax 78) (60, .inl (fun _ => 0))) := hP 78 _ rfl
  rw [show ax 78 = ax 5 from ra_int (hK.2 67 _ rfl).2 (hK.2 1 _ rfl).2] at z
  exact z
set_option maxRecDepth 100000 in
theorem pb_79 {dC : Nat → ClassId} {dI : Nat → Nat → Nat} {s : State} {gx gm : Nat → Nat} {ax am : Nat → ClassId} {H : Heap} (hK : va_K (dC, dI) vwCl (tX ax ++ tM am) s) (hP : va_P (dC, dI) vwCl (wX gx ax ++ wM gm am) H) : ∀ q, (toW (rho gx gm) (clA ax) ph0)[79]? = some q → va_at (dC, dI) vwCl q H := fun q hq => by
  cases (toW_at sh_79).symm.trans hq
  have z : H[gx 79]? = some (vp_cell (ax 79) (60, .inl (fun _ => 0))) := hP 79 _ rfl
  rw [show ax 79 = ax 5 from ra_int (hK.2 68 _ rfl).2 (hK.2 1 _ rfl).2] at z
  exact z
set_option maxRecDepth 100000 in
theorem pb_80 {dC : Nat → ClassId} {dI : Nat → Nat → Nat} {s : State} {gx gm : Nat → Nat} {ax am : Nat → ClassId} {H : Heap} (hK : va_K (dC, dI) vwCl (tX ax ++ tM am) s) (hP : va_P (dC, dI) vwCl (wX gx ax ++ wM gm am) H) : ∀ q, (toW (rho gx gm) (clA ax) ph0)[80]? = some q → va_at (dC, dI) vwCl q H := fun q hq => by
  cases (toW_at sh_80).symm.trans hq
  have z : H[gx 80]? = some (vp_cell (ax 80) (60, .inl (fun _ => 0))) := hP 80 _ rfl
  rw [show ax 80 = ax 5 from ra_int (hK.2 69 _ rfl).2 (hK.2 1 _ rfl).2] at z
  exact z
set_option maxRecDepth 100000 in
theorem pb_81 {dC : Nat → ClassId} {dI : Nat → Nat → Nat} {s : State} {gx gm : Nat → Nat} {ax am : Nat → ClassId} {H : Heap} (hK : va_K (dC, dI) vwCl (tX ax ++ tM am) s) (hP : va_P (dC, dI) vwCl (wX gx ax ++ wM gm am) H) : ∀ q, (toW (rho gx gm) (clA ax) ph0)[81]? = some q → va_at (dC, dI) vwCl q H := fun q hq => by
  cases (toW_at sh_81).symm.trans hq
  have z : H[gx 81]? = some (vp_cell (ax 81) (60, .inl (fun _ => 0))) := hP 81 _ rfl
  rw [show ax 81 = ax 5 from ra_int (hK.2 70 _ rfl).2 (hK.2 1 _ rfl).2] at z
  exact z
set_option maxRecDepth 100000 in
theorem pb_82 {dC : Nat → ClassId} {dI : Nat → Nat → Nat} {s : State} {gx gm : Nat → Nat} {ax am : Nat → ClassId} {H : Heap} (hK : va_K (dC, dI) vwCl (tX ax ++ tM am) s) (hP : va_P (dC, dI) vwCl (wX gx ax ++ wM gm am) H) : ∀ q, (toW (rho gx gm) (clA ax) ph0)[82]? = some q → va_at (dC, dI) vwCl q H := fun q hq => by
  cases (toW_at sh_82).symm.trans hq
  have z : H[gx 82]? = some (vp_cell (ax 82) (60, .inl (fun _ => 0))) := hP 82 _ rfl
  rw [show ax 82 = ax 5 from ra_int (hK.2 71 _ rfl).2 (hK.2 1 _ rfl).2] at z
  exact z
set_option maxRecDepth 100000 in
theorem pb_83 {dC : Nat → ClassId} {dI : Nat → Nat → Nat} {s : State} {gx gm : Nat → Nat} {ax am : Nat → ClassId} {H : Heap} (hK : va_K (dC, dI) vwCl (tX ax ++ tM am) s) (hP : va_P (dC, dI) vwCl (wX gx ax ++ wM gm am) H) : ∀ q, (toW (rho gx gm) (clA ax) ph0)[83]? = some q → va_at (dC, dI) vwCl q H := fun q hq => by
  cases (toW_at sh_83).symm.trans hq
  have z : H[gx 83]? = some (vp_cell (ax 83) (60, .inl (fun _ => 0))) := hP 83 _ rfl
  rw [show ax 83 = ax 5 from ra_int (hK.2 72 _ rfl).2 (hK.2 1 _ rfl).2] at z
  exact z
set_option maxRecDepth 100000 in
theorem pb_84 {dC : Nat → ClassId} {dI : Nat → Nat → Nat} {s : State} {gx gm : Nat → Nat} {ax am : Nat → ClassId} {H : Heap} (hK : va_K (dC, dI) vwCl (tX ax ++ tM am) s) (hP : va_P (dC, dI) vwCl (wX gx ax ++ wM gm am) H) : ∀ q, (toW (rho gx gm) (clA ax) ph0)[84]? = some q → va_at (dC, dI) vwCl q H := fun q hq => by
  cases (toW_at sh_84).symm.trans hq
  have z : H[gx 84]? = some (vp_cell (ax 84) (60, .inl (fun _ => 0))) := hP 84 _ rfl
  rw [show ax 84 = ax 5 from ra_int (hK.2 73 _ rfl).2 (hK.2 1 _ rfl).2] at z
  exact z
set_option maxRecDepth 100000 in
theorem pb_85 {dC : Nat → ClassId} {dI : Nat → Nat → Nat} {s : State} {gx gm : Nat → Nat} {ax am : Nat → ClassId} {H : Heap} (hK : va_K (dC, dI) vwCl (tX ax ++ tM am) s) (hP : va_P (dC, dI) vwCl (wX gx ax ++ wM gm am) H) : ∀ q, (toW (rho gx gm) (clA ax) ph0)[85]? = some q → va_at (dC, dI) vwCl q H := fun q hq => by
  cases (toW_at sh_85).symm.trans hq
  have z : H[gx 85]? = some (vp_cell (ax 85) (60, .inl (fun _ => 0))) := hP 85 _ rfl
  rw [show ax 85 = ax 5 from ra_int (hK.2 74 _ rfl).2 (hK.2 1 _ rfl).2] at z
  exact z
set_option maxRecDepth 100000 in
theorem pb_86 {dC : Nat → ClassId} {dI : Nat → Nat → Nat} {s : State} {gx gm : Nat → Nat} {ax am : Nat → ClassId} {H : Heap} (hK : va_K (dC, dI) vwCl (tX ax ++ tM am) s) (hP : va_P (dC, dI) vwCl (wX gx ax ++ wM gm am) H) : ∀ q, (toW (rho gx gm) (clA ax) ph0)[86]? = some q → va_at (dC, dI) vwCl q H := fun q hq => by
  cases (toW_at sh_86).symm.trans hq
  have z : H[gx 86]? = some (vp_cell (ax 86) (7, .inl (fun _ => 0))) := hP 86 _ rfl
  rw [show ax 86 = ax 5 from ra_int (hK.2 75 _ rfl).2 (hK.2 1 _ rfl).2] at z
  exact z
set_option maxRecDepth 100000 in
theorem pb_87 {dC : Nat → ClassId} {dI : Nat → Nat → Nat} {s : State} {gx gm : Nat → Nat} {ax am : Nat → ClassId} {H : Heap} (hK : va_K (dC, dI) vwCl (tX ax ++ tM am) s) (hP : va_P (dC, dI) vwCl (wX gx ax ++ wM gm am) H) : ∀ q, (toW (rho gx gm) (clA ax) ph0)[87]? = some q → va_at (dC, dI) vwCl q H := fun q hq => by
  cases (toW_at sh_87).symm.trans hq
  exact hP 87 _ rfl
set_option maxRecDepth 100000 in
theorem pb_88 {dC : Nat → ClassId} {dI : Nat → Nat → Nat} {s : State} {gx gm : Nat → Nat} {ax am : Nat → ClassId} {H : Heap} (hK : va_K (dC, dI) vwCl (tX ax ++ tM am) s) (hP : va_P (dC, dI) vwCl (wX gx ax ++ wM gm am) H) : ∀ q, (toW (rho gx gm) (clA ax) ph0)[88]? = some q → va_at (dC, dI) vwCl q H := fun q hq => by
  cases (toW_at sh_88).symm.trans hq
  have z : H[gx 88]? = some (vp_cell (ax 88) (6, .inl (fun _ => 0))) := hP 88 _ rfl
  rw [show ax 88 = ax 5 from ra_int (hK.2 76 _ rfl).2 (hK.2 1 _ rfl).2] at z
  exact z
set_option maxRecDepth 100000 in
theorem pb_89 {dC : Nat → ClassId} {dI : Nat → Nat → Nat} {s : State} {gx gm : Nat → Nat} {ax am : Nat → ClassId} {H : Heap} (hK : va_K (dC, dI) vwCl (tX ax ++ tM am) s) (hP : va_P (dC, dI) vwCl (wX gx ax ++ wM gm am) H) : ∀ q, (toW (rho gx gm) (clA ax) ph0)[89]? = some q → va_at (dC, dI) vwCl q H := fun q hq => by
  cases (toW_at sh_89).symm.trans hq
  have z : H[gx 89]? = some (vp_cell (ax 89) (6, .inl (fun _ => 0))) := hP 89 _ rfl
  rw [show ax 89 = ax 5 from ra_int (hK.2 77 _ rfl).2 (hK.2 1 _ rfl).2] at z
  exact z
set_option maxRecDepth 100000 in
theorem pb_90 {dC : Nat → ClassId} {dI : Nat → Nat → Nat} {s : State} {gx gm : Nat → Nat} {ax am : Nat → ClassId} {H : Heap} (hK : va_K (dC, dI) vwCl (tX ax ++ tM am) s) (hP : va_P (dC, dI) vwCl (wX gx ax ++ wM gm am) H) : ∀ q, (toW (rho gx gm) (clA ax) ph0)[90]? = some q → va_at (dC, dI) vwCl q H := fun q hq => by
  cases (toW_at sh_90).symm.trans hq
  have z : H[gx 90]? = some (vp_cell (ax 90) (720, .inl (fun _ => 0))) := hP 90 _ rfl
  rw [show ax 90 = ax 5 from ra_int (hK.2 78 _ rfl).2 (hK.2 1 _ rfl).2] at z
  exact z
set_option maxRecDepth 100000 in
theorem pb_91 {dC : Nat → ClassId} {dI : Nat → Nat → Nat} {s : State} {gx gm : Nat → Nat} {ax am : Nat → ClassId} {H : Heap} (hK : va_K (dC, dI) vwCl (tX ax ++ tM am) s) (hP : va_P (dC, dI) vwCl (wX gx ax ++ wM gm am) H) : ∀ q, (toW (rho gx gm) (clA ax) ph0)[91]? = some q → va_at (dC, dI) vwCl q H := fun q hq => by
  cases (toW_at sh_91).symm.trans hq
  have z : H[gx 91]? = some (vp_cell (ax 91) (720, .inr (.inl (fun _ => 0)))) := hP 91 _ rfl
  rw [show ax 91 = ax 9 from ra_long (hK.2 79 _ rfl).2 (hK.2 5 _ rfl).2] at z
  exact z
set_option maxRecDepth 100000 in
theorem pb_92 {dC : Nat → ClassId} {dI : Nat → Nat → Nat} {s : State} {gx gm : Nat → Nat} {ax am : Nat → ClassId} {H : Heap} (hK : va_K (dC, dI) vwCl (tX ax ++ tM am) s) (hP : va_P (dC, dI) vwCl (wX gx ax ++ wM gm am) H) : ∀ q, (toW (rho gx gm) (clA ax) ph0)[92]? = some q → va_at (dC, dI) vwCl q H := fun q hq => by
  cases (toW_at sh_92).symm.trans hq
  have z : H[gx 92]? = some (vp_cell (ax 92) (720, .inl (fun _ => 0))) := hP 92 _ rfl
  rw [show ax 92 = ax 5 from ra_int (hK.2 80 _ rfl).2 (hK.2 1 _ rfl).2] at z
  exact z
set_option maxRecDepth 100000 in
theorem pb_93 {dC : Nat → ClassId} {dI : Nat → Nat → Nat} {s : State} {gx gm : Nat → Nat} {ax am : Nat → ClassId} {H : Heap} (hK : va_K (dC, dI) vwCl (tX ax ++ tM am) s) (hP : va_P (dC, dI) vwCl (wX gx ax ++ wM gm am) H) : ∀ q, (toW (rho gx gm) (clA ax) ph0)[93]? = some q → va_at (dC, dI) vwCl q H := fun q hq => by
  cases (toW_at sh_93).symm.trans hq
  have z : H[gx 93]? = some (vp_cell (ax 93) (61, .inl (fun _ => 0))) := hP 93 _ rfl
  rw [show ax 93 = ax 5 from ra_int (hK.2 81 _ rfl).2 (hK.2 1 _ rfl).2] at z
  exact z
set_option maxRecDepth 100000 in
theorem pb_94 {dC : Nat → ClassId} {dI : Nat → Nat → Nat} {s : State} {gx gm : Nat → Nat} {ax am : Nat → ClassId} {H : Heap} (hK : va_K (dC, dI) vwCl (tX ax ++ tM am) s) (hP : va_P (dC, dI) vwCl (wX gx ax ++ wM gm am) H) : ∀ q, (toW (rho gx gm) (clA ax) ph0)[94]? = some q → va_at (dC, dI) vwCl q H := fun q hq => by
  cases (toW_at sh_94).symm.trans hq
  exact hP 94 _ rfl
set_option maxRecDepth 100000 in
theorem pb_95 {dC : Nat → ClassId} {dI : Nat → Nat → Nat} {s : State} {gx gm : Nat → Nat} {ax am : Nat → ClassId} {H : Heap} (hK : va_K (dC, dI) vwCl (tX ax ++ tM am) s) (hP : va_P (dC, dI) vwCl (wX gx ax ++ wM gm am) H) : ∀ q, (toW (rho gx gm) (clA ax) ph0)[95]? = some q → va_at (dC, dI) vwCl q H := fun q hq => by
  cases (toW_at sh_95).symm.trans hq
  have z : H[gx 95]? = some (vp_cell (ax 95) (256, .inr (.inl (fun _ => 0)))) := hP 95 _ rfl
  rw [show ax 95 = ax 9 from ra_long (hK.2 82 _ rfl).2 (hK.2 5 _ rfl).2] at z
  exact z
theorem vpm {fs : List PF} {f : Nat → PF → Value} {k : Nat} {x : PF} (h : fs[k]? = some x) : vp_V (fs.mapIdx f) k = f k x := by
  unfold vp_V
  rw [List.getD_eq_getElem?_getD, List.getElem?_mapIdx, h]
  rfl
theorem v96_0 {gx gm : Nat → Nat} : vp_V (fs_96.mapIdx (pfv (rho gx gm) ph0 96)) 0 = vp_V (oM gm 0 0 0 0 0 0 (-1)) 0 := by rw [vpm (x := .inr false) rfl]; rfl
theorem v96_1 {gx gm : Nat → Nat} : vp_V (fs_96.mapIdx (pfv (rho gx gm) ph0 96)) 1 = vp_V (oM gm 0 0 0 0 0 0 (-1)) 1 := by rw [vpm (x := .inl 97) rfl]; rfl
theorem v96_2 {gx gm : Nat → Nat} : vp_V (fs_96.mapIdx (pfv (rho gx gm) ph0 96)) 2 = vp_V (oM gm 0 0 0 0 0 0 (-1)) 2 := by rw [vpm (x := .inl 98) rfl]; rfl
theorem v96_3 {gx gm : Nat → Nat} : vp_V (fs_96.mapIdx (pfv (rho gx gm) ph0 96)) 3 = vp_V (oM gm 0 0 0 0 0 0 (-1)) 3 := by rw [vpm (x := .inl 99) rfl]; rfl
theorem v96_4 {gx gm : Nat → Nat} : vp_V (fs_96.mapIdx (pfv (rho gx gm) ph0 96)) 4 = vp_V (oM gm 0 0 0 0 0 0 (-1)) 4 := by rw [vpm (x := .inl 100) rfl]; rfl
theorem v96_5 {gx gm : Nat → Nat} : vp_V (fs_96.mapIdx (pfv (rho gx gm) ph0 96)) 5 = vp_V (oM gm 0 0 0 0 0 0 (-1)) 5 := by rw [vpm (x := .inr false) rfl]; rfl
theorem v96_6 {gx gm : Nat → Nat} : vp_V (fs_96.mapIdx (pfv (rho gx gm) ph0 96)) 6 = vp_V (oM gm 0 0 0 0 0 0 (-1)) 6 := by rw [vpm (x := .inl 101) rfl]; rfl
theorem v96_7 {gx gm : Nat → Nat} : vp_V (fs_96.mapIdx (pfv (rho gx gm) ph0 96)) 7 = vp_V (oM gm 0 0 0 0 0 0 (-1)) 7 := by rw [vpm (x := .inr false) rfl]; rfl
theorem v96_8 {gx gm : Nat → Nat} : vp_V (fs_96.mapIdx (pfv (rho gx gm) ph0 96)) 8 = vp_V (oM gm 0 0 0 0 0 0 (-1)) 8 := by rw [vpm (x := .inr false) rfl]; rfl
theorem v96_9 {gx gm : Nat → Nat} : vp_V (fs_96.mapIdx (pfv (rho gx gm) ph0 96)) 9 = vp_V (oM gm 0 0 0 0 0 0 (-1)) 9 := by rw [vpm (x := .inr false) rfl]; rfl
theorem v96_10 {gx gm : Nat → Nat} : vp_V (fs_96.mapIdx (pfv (rho gx gm) ph0 96)) 10 = vp_V (oM gm 0 0 0 0 0 0 (-1)) 10 := by rw [vpm (x := .inr false) rfl]; rfl
theorem v96_11 {gx gm : Nat → Nat} : vp_V (fs_96.mapIdx (pfv (rho gx gm) ph0 96)) 11 = vp_V (oM gm 0 0 0 0 0 0 (-1)) 11 := by rw [vpm (x := .inr false) rfl]; rfl
theorem v96_12 {gx gm : Nat → Nat} : vp_V (fs_96.mapIdx (pfv (rho gx gm) ph0 96)) 12 = vp_V (oM gm 0 0 0 0 0 0 (-1)) 12 := by rw [vpm (x := .inr false) rfl]; rfl
theorem v96_13 {gx gm : Nat → Nat} : vp_V (fs_96.mapIdx (pfv (rho gx gm) ph0 96)) 13 = vp_V (oM gm 0 0 0 0 0 0 (-1)) 13 := by rw [vpm (x := .inr false) rfl]; rfl
theorem v96_14 {gx gm : Nat → Nat} : vp_V (fs_96.mapIdx (pfv (rho gx gm) ph0 96)) 14 = vp_V (oM gm 0 0 0 0 0 0 (-1)) 14 := by rw [vpm (x := .inl 102) rfl]; rfl
theorem v96_15 {gx gm : Nat → Nat} : vp_V (fs_96.mapIdx (pfv (rho gx gm) ph0 96)) 15 = vp_V (oM gm 0 0 0 0 0 0 (-1)) 15 := by rw [vpm (x := .inl 103) rfl]; rfl
theorem v96_16 {gx gm : Nat → Nat} : vp_V (fs_96.mapIdx (pfv (rho gx gm) ph0 96)) 16 = vp_V (oM gm 0 0 0 0 0 0 (-1)) 16 := by rw [vpm (x := .inl 104) rfl]; rfl
theorem v96_17 {gx gm : Nat → Nat} : vp_V (fs_96.mapIdx (pfv (rho gx gm) ph0 96)) 17 = vp_V (oM gm 0 0 0 0 0 0 (-1)) 17 := by rw [vpm (x := .inl 105) rfl]; rfl
theorem v96_18 {gx gm : Nat → Nat} : vp_V (fs_96.mapIdx (pfv (rho gx gm) ph0 96)) 18 = vp_V (oM gm 0 0 0 0 0 0 (-1)) 18 := by rw [vpm (x := .inr false) rfl]; rfl
theorem v96_19 {gx gm : Nat → Nat} : vp_V (fs_96.mapIdx (pfv (rho gx gm) ph0 96)) 19 = vp_V (oM gm 0 0 0 0 0 0 (-1)) 19 := by rw [vpm (x := .inr false) rfl]; rfl
theorem v96_20 {gx gm : Nat → Nat} : vp_V (fs_96.mapIdx (pfv (rho gx gm) ph0 96)) 20 = vp_V (oM gm 0 0 0 0 0 0 (-1)) 20 := by rw [vpm (x := .inr false) rfl]; rfl
theorem v96_21 {gx gm : Nat → Nat} : vp_V (fs_96.mapIdx (pfv (rho gx gm) ph0 96)) 21 = vp_V (oM gm 0 0 0 0 0 0 (-1)) 21 := by rw [vpm (x := .inl 106) rfl]; rfl
theorem v96_22 {gx gm : Nat → Nat} : vp_V (fs_96.mapIdx (pfv (rho gx gm) ph0 96)) 22 = vp_V (oM gm 0 0 0 0 0 0 (-1)) 22 := by rw [vpm (x := .inl 107) rfl]; rfl
theorem v96_23 {gx gm : Nat → Nat} : vp_V (fs_96.mapIdx (pfv (rho gx gm) ph0 96)) 23 = vp_V (oM gm 0 0 0 0 0 0 (-1)) 23 := by rw [vpm (x := .inl 108) rfl]; rfl
theorem v96_24 {gx gm : Nat → Nat} : vp_V (fs_96.mapIdx (pfv (rho gx gm) ph0 96)) 24 = vp_V (oM gm 0 0 0 0 0 0 (-1)) 24 := by rw [vpm (x := .inl 109) rfl]; rfl
theorem v96_25 {gx gm : Nat → Nat} : vp_V (fs_96.mapIdx (pfv (rho gx gm) ph0 96)) 25 = vp_V (oM gm 0 0 0 0 0 0 (-1)) 25 := by rw [vpm (x := .inl 110) rfl]; rfl
theorem v96_26 {gx gm : Nat → Nat} : vp_V (fs_96.mapIdx (pfv (rho gx gm) ph0 96)) 26 = vp_V (oM gm 0 0 0 0 0 0 (-1)) 26 := by rw [vpm (x := .inl 111) rfl]; rfl
theorem v96_27 {gx gm : Nat → Nat} : vp_V (fs_96.mapIdx (pfv (rho gx gm) ph0 96)) 27 = vp_V (oM gm 0 0 0 0 0 0 (-1)) 27 := by rw [vpm (x := .inl 112) rfl]; rfl
theorem v96_28 {gx gm : Nat → Nat} : vp_V (fs_96.mapIdx (pfv (rho gx gm) ph0 96)) 28 = vp_V (oM gm 0 0 0 0 0 0 (-1)) 28 := by rw [vpm (x := .inl 113) rfl]; rfl
theorem v96_29 {gx gm : Nat → Nat} : vp_V (fs_96.mapIdx (pfv (rho gx gm) ph0 96)) 29 = vp_V (oM gm 0 0 0 0 0 0 (-1)) 29 := by rw [vpm (x := .inl 114) rfl]; rfl
theorem v96_30 {gx gm : Nat → Nat} : vp_V (fs_96.mapIdx (pfv (rho gx gm) ph0 96)) 30 = vp_V (oM gm 0 0 0 0 0 0 (-1)) 30 := by rw [vpm (x := .inl 115) rfl]; rfl
theorem v96_31 {gx gm : Nat → Nat} : vp_V (fs_96.mapIdx (pfv (rho gx gm) ph0 96)) 31 = vp_V (oM gm 0 0 0 0 0 0 (-1)) 31 := by rw [vpm (x := .inl 116) rfl]; rfl
theorem v96_32 {gx gm : Nat → Nat} : vp_V (fs_96.mapIdx (pfv (rho gx gm) ph0 96)) 32 = vp_V (oM gm 0 0 0 0 0 0 (-1)) 32 := by rw [vpm (x := .inl 117) rfl]; rfl
theorem v96_33 {gx gm : Nat → Nat} : vp_V (fs_96.mapIdx (pfv (rho gx gm) ph0 96)) 33 = vp_V (oM gm 0 0 0 0 0 0 (-1)) 33 := by rw [vpm (x := .inl 118) rfl]; rfl
theorem v96_34 {gx gm : Nat → Nat} : vp_V (fs_96.mapIdx (pfv (rho gx gm) ph0 96)) 34 = vp_V (oM gm 0 0 0 0 0 0 (-1)) 34 := by rw [vpm (x := .inr false) rfl]; rfl
theorem v96_35 {gx gm : Nat → Nat} : vp_V (fs_96.mapIdx (pfv (rho gx gm) ph0 96)) 35 = vp_V (oM gm 0 0 0 0 0 0 (-1)) 35 := by rw [vpm (x := .inr false) rfl]; rfl
theorem v96_36 {gx gm : Nat → Nat} : vp_V (fs_96.mapIdx (pfv (rho gx gm) ph0 96)) 36 = vp_V (oM gm 0 0 0 0 0 0 (-1)) 36 := by rw [vpm (x := .inr false) rfl]; rfl
theorem v96_37 {gx gm : Nat → Nat} : vp_V (fs_96.mapIdx (pfv (rho gx gm) ph0 96)) 37 = vp_V (oM gm 0 0 0 0 0 0 (-1)) 37 := by rw [vpm (x := .inl 119) rfl]; rfl
theorem v96_38 {gx gm : Nat → Nat} : vp_V (fs_96.mapIdx (pfv (rho gx gm) ph0 96)) 38 = vp_V (oM gm 0 0 0 0 0 0 (-1)) 38 := by rw [vpm (x := .inl 120) rfl]; rfl
theorem v96_39 {gx gm : Nat → Nat} : vp_V (fs_96.mapIdx (pfv (rho gx gm) ph0 96)) 39 = vp_V (oM gm 0 0 0 0 0 0 (-1)) 39 := by rw [vpm (x := .inl 121) rfl]; rfl
theorem v96_40 {gx gm : Nat → Nat} : vp_V (fs_96.mapIdx (pfv (rho gx gm) ph0 96)) 40 = vp_V (oM gm 0 0 0 0 0 0 (-1)) 40 := by rw [vpm (x := .inl 122) rfl]; rfl
theorem v96_41 {gx gm : Nat → Nat} : vp_V (fs_96.mapIdx (pfv (rho gx gm) ph0 96)) 41 = vp_V (oM gm 0 0 0 0 0 0 (-1)) 41 := by rw [vpm (x := .inr false) rfl]; rfl
theorem v96_42 {gx gm : Nat → Nat} : vp_V (fs_96.mapIdx (pfv (rho gx gm) ph0 96)) 42 = vp_V (oM gm 0 0 0 0 0 0 (-1)) 42 := by rw [vpm (x := .inr false) rfl]; rfl
theorem v96_43 {gx gm : Nat → Nat} : vp_V (fs_96.mapIdx (pfv (rho gx gm) ph0 96)) 43 = vp_V (oM gm 0 0 0 0 0 0 (-1)) 43 := by rw [vpm (x := .inr false) rfl]; rfl
theorem v96_44 {gx gm : Nat → Nat} : vp_V (fs_96.mapIdx (pfv (rho gx gm) ph0 96)) 44 = vp_V (oM gm 0 0 0 0 0 0 (-1)) 44 := by rw [vpm (x := .inr false) rfl]; rfl
theorem v96_45 {gx gm : Nat → Nat} : vp_V (fs_96.mapIdx (pfv (rho gx gm) ph0 96)) 45 = vp_V (oM gm 0 0 0 0 0 0 (-1)) 45 := by rw [vpm (x := .inl 123) rfl]; rfl
theorem v96_46 {gx gm : Nat → Nat} : vp_V (fs_96.mapIdx (pfv (rho gx gm) ph0 96)) 46 = vp_V (oM gm 0 0 0 0 0 0 (-1)) 46 := by rw [vpm (x := .inr false) rfl]; rfl
theorem v96_47 {gx gm : Nat → Nat} : vp_V (fs_96.mapIdx (pfv (rho gx gm) ph0 96)) 47 = vp_V (oM gm 0 0 0 0 0 0 (-1)) 47 := by rw [vpm (x := .inr false) rfl]; rfl
theorem v96_48 {gx gm : Nat → Nat} : vp_V (fs_96.mapIdx (pfv (rho gx gm) ph0 96)) 48 = vp_V (oM gm 0 0 0 0 0 0 (-1)) 48 := by rw [vpm (x := .inr false) rfl]; rfl
theorem v96_49 {gx gm : Nat → Nat} : vp_V (fs_96.mapIdx (pfv (rho gx gm) ph0 96)) 49 = vp_V (oM gm 0 0 0 0 0 0 (-1)) 49 := by rw [vpm (x := .inl 124) rfl]; rfl
theorem v96_50 {gx gm : Nat → Nat} : vp_V (fs_96.mapIdx (pfv (rho gx gm) ph0 96)) 50 = vp_V (oM gm 0 0 0 0 0 0 (-1)) 50 := by rw [vpm (x := .inl 125) rfl]; rfl
theorem v96_51 {gx gm : Nat → Nat} : vp_V (fs_96.mapIdx (pfv (rho gx gm) ph0 96)) 51 = vp_V (oM gm 0 0 0 0 0 0 (-1)) 51 := by rw [vpm (x := .inr false) rfl]; rfl
theorem v96_52 {gx gm : Nat → Nat} : vp_V (fs_96.mapIdx (pfv (rho gx gm) ph0 96)) 52 = vp_V (oM gm 0 0 0 0 0 0 (-1)) 52 := by rw [vpm (x := .inr false) rfl]; rfl
theorem v96_53 {gx gm : Nat → Nat} : vp_V (fs_96.mapIdx (pfv (rho gx gm) ph0 96)) 53 = vp_V (oM gm 0 0 0 0 0 0 (-1)) 53 := by rw [vpm (x := .inl 126) rfl]; rfl
theorem v96_54 {gx gm : Nat → Nat} : vp_V (fs_96.mapIdx (pfv (rho gx gm) ph0 96)) 54 = vp_V (oM gm 0 0 0 0 0 0 (-1)) 54 := by rw [vpm (x := .inr true) rfl]; rfl
theorem v96_55 {gx gm : Nat → Nat} : vp_V (fs_96.mapIdx (pfv (rho gx gm) ph0 96)) 55 = vp_V (oM gm 0 0 0 0 0 0 (-1)) 55 := by rw [vpm (x := .inr true) rfl]; rfl
theorem v96_56 {gx gm : Nat → Nat} : vp_V (fs_96.mapIdx (pfv (rho gx gm) ph0 96)) 56 = vp_V (oM gm 0 0 0 0 0 0 (-1)) 56 := by rw [vpm (x := .inr true) rfl]; rfl
theorem v96_57 {gx gm : Nat → Nat} : vp_V (fs_96.mapIdx (pfv (rho gx gm) ph0 96)) 57 = vp_V (oM gm 0 0 0 0 0 0 (-1)) 57 := by rw [vpm (x := .inl 127) rfl]; rfl
theorem v96_58 {gx gm : Nat → Nat} : vp_V (fs_96.mapIdx (pfv (rho gx gm) ph0 96)) 58 = vp_V (oM gm 0 0 0 0 0 0 (-1)) 58 := by rw [vpm (x := .inl 128) rfl]; rfl
theorem v96_59 {gx gm : Nat → Nat} : vp_V (fs_96.mapIdx (pfv (rho gx gm) ph0 96)) 59 = vp_V (oM gm 0 0 0 0 0 0 (-1)) 59 := by rw [vpm (x := .inl 129) rfl]; rfl
theorem v96_60 {gx gm : Nat → Nat} : vp_V (fs_96.mapIdx (pfv (rho gx gm) ph0 96)) 60 = vp_V (oM gm 0 0 0 0 0 0 (-1)) 60 := by rw [vpm (x := .inl 130) rfl]; rfl
theorem v96 {gx gm : Nat → Nat} : ∀ k, k < 61 → vp_V (oM gm 0 0 0 0 0 0 (-1)) k = vp_V (fs_96.mapIdx (pfv (rho gx gm) ph0 96)) k := by
  have h_0 : ∀ k : Nat, k < 0 → (fun k : Nat => vp_V (oM gm 0 0 0 0 0 0 (-1)) k = vp_V (fs_96.mapIdx (pfv (rho gx gm) ph0 96)) k) k := lt_0
  have h_1 : ∀ k : Nat, k < 1 → (fun k : Nat => vp_V (oM gm 0 0 0 0 0 0 (-1)) k = vp_V (fs_96.mapIdx (pfv (rho gx gm) ph0 96)) k) k := lt_s (p := fun k : Nat => vp_V (oM gm 0 0 0 0 0 0 (-1)) k = vp_V (fs_96.mapIdx (pfv (rho gx gm) ph0 96)) k) h_0 v96_0.symm
  have h_2 : ∀ k : Nat, k < 2 → (fun k : Nat => vp_V (oM gm 0 0 0 0 0 0 (-1)) k = vp_V (fs_96.mapIdx (pfv (rho gx gm) ph0 96)) k) k := lt_s (p := fun k : Nat => vp_V (oM gm 0 0 0 0 0 0 (-1)) k = vp_V (fs_96.mapIdx (pfv (rho gx gm) ph0 96)) k) h_1 v96_1.symm
  have h_3 : ∀ k : Nat, k < 3 → (fun k : Nat => vp_V (oM gm 0 0 0 0 0 0 (-1)) k = vp_V (fs_96.mapIdx (pfv (rho gx gm) ph0 96)) k) k := lt_s (p := fun k : Nat => vp_V (oM gm 0 0 0 0 0 0 (-1)) k = vp_V (fs_96.mapIdx (pfv (rho gx gm) ph0 96)) k) h_2 v96_2.symm
  have h_4 : ∀ k : Nat, k < 4 → (fun k : Nat => vp_V (oM gm 0 0 0 0 0 0 (-1)) k = vp_V (fs_96.mapIdx (pfv (rho gx gm) ph0 96)) k) k := lt_s (p := fun k : Nat => vp_V (oM gm 0 0 0 0 0 0 (-1)) k = vp_V (fs_96.mapIdx (pfv (rho gx gm) ph0 96)) k) h_3 v96_3.symm
  have h_5 : ∀ k : Nat, k < 5 → (fun k : Nat => vp_V (oM gm 0 0 0 0 0 0 (-1)) k = vp_V (fs_96.mapIdx (pfv (rho gx gm) ph0 96)) k) k := lt_s (p := fun k : Nat => vp_V (oM gm 0 0 0 0 0 0 (-1)) k = vp_V (fs_96.mapIdx (pfv (rho gx gm) ph0 96)) k) h_4 v96_4.symm
  have h_6 : ∀ k : Nat, k < 6 → (fun k : Nat => vp_V (oM gm 0 0 0 0 0 0 (-1)) k = vp_V (fs_96.mapIdx (pfv (rho gx gm) ph0 96)) k) k := lt_s (p := fun k : Nat => vp_V (oM gm 0 0 0 0 0 0 (-1)) k = vp_V (fs_96.mapIdx (pfv (rho gx gm) ph0 96)) k) h_5 v96_5.symm
  have h_7 : ∀ k : Nat, k < 7 → (fun k : Nat => vp_V (oM gm 0 0 0 0 0 0 (-1)) k = vp_V (fs_96.mapIdx (pfv (rho gx gm) ph0 96)) k) k := lt_s (p := fun k : Nat => vp_V (oM gm 0 0 0 0 0 0 (-1)) k = vp_V (fs_96.mapIdx (pfv (rho gx gm) ph0 96)) k) h_6 v96_6.symm
  have h_8 : ∀ k : Nat, k < 8 → (fun k : Nat => vp_V (oM gm 0 0 0 0 0 0 (-1)) k = vp_V (fs_96.mapIdx (pfv (rho gx gm) ph0 96)) k) k := lt_s (p := fun k : Nat => vp_V (oM gm 0 0 0 0 0 0 (-1)) k = vp_V (fs_96.mapIdx (pfv (rho gx gm) ph0 96)) k) h_7 v96_7.symm
  have h_9 : ∀ k : Nat, k < 9 → (fun k : Nat => vp_V (oM gm 0 0 0 0 0 0 (-1)) k = vp_V (fs_96.mapIdx (pfv (rho gx gm) ph0 96)) k) k := lt_s (p := fun k : Nat => vp_V (oM gm 0 0 0 0 0 0 (-1)) k = vp_V (fs_96.mapIdx (pfv (rho gx gm) ph0 96)) k) h_8 v96_8.symm
  have h_10 : ∀ k : Nat, k < 10 → (fun k : Nat => vp_V (oM gm 0 0 0 0 0 0 (-1)) k = vp_V (fs_96.mapIdx (pfv (rho gx gm) ph0 96)) k) k := lt_s (p := fun k : Nat => vp_V (oM gm 0 0 0 0 0 0 (-1)) k = vp_V (fs_96.mapIdx (pfv (rho gx gm) ph0 96)) k) h_9 v96_9.symm
  have h_11 : ∀ k : Nat, k < 11 → (fun k : Nat => vp_V (oM gm 0 0 0 0 0 0 (-1)) k = vp_V (fs_96.mapIdx (pfv (rho gx gm) ph0 96)) k) k := lt_s (p := fun k : Nat => vp_V (oM gm 0 0 0 0 0 0 (-1)) k = vp_V (fs_96.mapIdx (pfv (rho gx gm) ph0 96)) k) h_10 v96_10.symm
  have h_12 : ∀ k : Nat, k < 12 → (fun k : Nat => vp_V (oM gm 0 0 0 0 0 0 (-1)) k = vp_V (fs_96.mapIdx (pfv (rho gx gm) ph0 96)) k) k := lt_s (p := fun k : Nat => vp_V (oM gm 0 0 0 0 0 0 (-1)) k = vp_V (fs_96.mapIdx (pfv (rho gx gm) ph0 96)) k) h_11 v96_11.symm
  have h_13 : ∀ k : Nat, k < 13 → (fun k : Nat => vp_V (oM gm 0 0 0 0 0 0 (-1)) k = vp_V (fs_96.mapIdx (pfv (rho gx gm) ph0 96)) k) k := lt_s (p := fun k : Nat => vp_V (oM gm 0 0 0 0 0 0 (-1)) k = vp_V (fs_96.mapIdx (pfv (rho gx gm) ph0 96)) k) h_12 v96_12.symm
  have h_14 : ∀ k : Nat, k < 14 → (fun k : Nat => vp_V (oM gm 0 0 0 0 0 0 (-1)) k = vp_V (fs_96.mapIdx (pfv (rho gx gm) ph0 96)) k) k := lt_s (p := fun k : Nat => vp_V (oM gm 0 0 0 0 0 0 (-1)) k = vp_V (fs_96.mapIdx (pfv (rho gx gm) ph0 96)) k) h_13 v96_13.symm
  have h_15 : ∀ k : Nat, k < 15 → (fun k : Nat => vp_V (oM gm 0 0 0 0 0 0 (-1)) k = vp_V (fs_96.mapIdx (pfv (rho gx gm) ph0 96)) k) k := lt_s (p := fun k : Nat => vp_V (oM gm 0 0 0 0 0 0 (-1)) k = vp_V (fs_96.mapIdx (pfv (rho gx gm) ph0 96)) k) h_14 v96_14.symm
  have h_16 : ∀ k : Nat, k < 16 → (fun k : Nat => vp_V (oM gm 0 0 0 0 0 0 (-1)) k = vp_V (fs_96.mapIdx (pfv (rho gx gm) ph0 96)) k) k := lt_s (p := fun k : Nat => vp_V (oM gm 0 0 0 0 0 0 (-1)) k = vp_V (fs_96.mapIdx (pfv (rho gx gm) ph0 96)) k) h_15 v96_15.symm
  have h_17 : ∀ k : Nat, k < 17 → (fun k : Nat => vp_V (oM gm 0 0 0 0 0 0 (-1)) k = vp_V (fs_96.mapIdx (pfv (rho gx gm) ph0 96)) k) k := lt_s (p := fun k : Nat => vp_V (oM gm 0 0 0 0 0 0 (-1)) k = vp_V (fs_96.mapIdx (pfv (rho gx gm) ph0 96)) k) h_16 v96_16.symm
  have h_18 : ∀ k : Nat, k < 18 → (fun k : Nat => vp_V (oM gm 0 0 0 0 0 0 (-1)) k = vp_V (fs_96.mapIdx (pfv (rho gx gm) ph0 96)) k) k := lt_s (p := fun k : Nat => vp_V (oM gm 0 0 0 0 0 0 (-1)) k = vp_V (fs_96.mapIdx (pfv (rho gx gm) ph0 96)) k) h_17 v96_17.symm
  have h_19 : ∀ k : Nat, k < 19 → (fun k : Nat => vp_V (oM gm 0 0 0 0 0 0 (-1)) k = vp_V (fs_96.mapIdx (pfv (rho gx gm) ph0 96)) k) k := lt_s (p := fun k : Nat => vp_V (oM gm 0 0 0 0 0 0 (-1)) k = vp_V (fs_96.mapIdx (pfv (rho gx gm) ph0 96)) k) h_18 v96_18.symm
  have h_20 : ∀ k : Nat, k < 20 → (fun k : Nat => vp_V (oM gm 0 0 0 0 0 0 (-1)) k = vp_V (fs_96.mapIdx (pfv (rho gx gm) ph0 96)) k) k := lt_s (p := fun k : Nat => vp_V (oM gm 0 0 0 0 0 0 (-1)) k = vp_V (fs_96.mapIdx (pfv (rho gx gm) ph0 96)) k) h_19 v96_19.symm
  have h_21 : ∀ k : Nat, k < 21 → (fun k : Nat => vp_V (oM gm 0 0 0 0 0 0 (-1)) k = vp_V (fs_96.mapIdx (pfv (rho gx gm) ph0 96)) k) k := lt_s (p := fun k : Nat => vp_V (oM gm 0 0 0 0 0 0 (-1)) k = vp_V (fs_96.mapIdx (pfv (rho gx gm) ph0 96)) k) h_20 v96_20.symm
  have h_22 : ∀ k : Nat, k < 22 → (fun k : Nat => vp_V (oM gm 0 0 0 0 0 0 (-1)) k = vp_V (fs_96.mapIdx (pfv (rho gx gm) ph0 96)) k) k := lt_s (p := fun k : Nat => vp_V (oM gm 0 0 0 0 0 0 (-1)) k = vp_V (fs_96.mapIdx (pfv (rho gx gm) ph0 96)) k) h_21 v96_21.symm
  have h_23 : ∀ k : Nat, k < 23 → (fun k : Nat => vp_V (oM gm 0 0 0 0 0 0 (-1)) k = vp_V (fs_96.mapIdx (pfv (rho gx gm) ph0 96)) k) k := lt_s (p := fun k : Nat => vp_V (oM gm 0 0 0 0 0 0 (-1)) k = vp_V (fs_96.mapIdx (pfv (rho gx gm) ph0 96)) k) h_22 v96_22.symm
  have h_24 : ∀ k : Nat, k < 24 → (fun k : Nat => vp_V (oM gm 0 0 0 0 0 0 (-1)) k = vp_V (fs_96.mapIdx (pfv (rho gx gm) ph0 96)) k) k := lt_s (p := fun k : Nat => vp_V (oM gm 0 0 0 0 0 0 (-1)) k = vp_V (fs_96.mapIdx (pfv (rho gx gm) ph0 96)) k) h_23 v96_23.symm
  have h_25 : ∀ k : Nat, k < 25 → (fun k : Nat => vp_V (oM gm 0 0 0 0 0 0 (-1)) k = vp_V (fs_96.mapIdx (pfv (rho gx gm) ph0 96)) k) k := lt_s (p := fun k : Nat => vp_V (oM gm 0 0 0 0 0 0 (-1)) k = vp_V (fs_96.mapIdx (pfv (rho gx gm) ph0 96)) k) h_24 v96_24.symm
  have h_26 : ∀ k : Nat, k < 26 → (fun k : Nat => vp_V (oM gm 0 0 0 0 0 0 (-1)) k = vp_V (fs_96.mapIdx (pfv (rho gx gm) ph0 96)) k) k := lt_s (p := fun k : Nat => vp_V (oM gm 0 0 0 0 0 0 (-1)) k = vp_V (fs_96.mapIdx (pfv (rho gx gm) ph0 96)) k) h_25 v96_25.symm
  have h_27 : ∀ k : Nat, k < 27 → (fun k : Nat => vp_V (oM gm 0 0 0 0 0 0 (-1)) k = vp_V (fs_96.mapIdx (pfv (rho gx gm) ph0 96)) k) k := lt_s (p := fun k : Nat => vp_V (oM gm 0 0 0 0 0 0 (-1)) k = vp_V (fs_96.mapIdx (pfv (rho gx gm) ph0 96)) k) h_26 v96_26.symm
  have h_28 : ∀ k : Nat, k < 28 → (fun k : Nat => vp_V (oM gm 0 0 0 0 0 0 (-1)) k = vp_V (fs_96.mapIdx (pfv (rho gx gm) ph0 96)) k) k := lt_s (p := fun k : Nat => vp_V (oM gm 0 0 0 0 0 0 (-1)) k = vp_V (fs_96.mapIdx (pfv (rho gx gm) ph0 96)) k) h_27 v96_27.symm
  have h_29 : ∀ k : Nat, k < 29 → (fun k : Nat => vp_V (oM gm 0 0 0 0 0 0 (-1)) k = vp_V (fs_96.mapIdx (pfv (rho gx gm) ph0 96)) k) k := lt_s (p := fun k : Nat => vp_V (oM gm 0 0 0 0 0 0 (-1)) k = vp_V (fs_96.mapIdx (pfv (rho gx gm) ph0 96)) k) h_28 v96_28.symm
  have h_30 : ∀ k : Nat, k < 30 → (fun k : Nat => vp_V (oM gm 0 0 0 0 0 0 (-1)) k = vp_V (fs_96.mapIdx (pfv (rho gx gm) ph0 96)) k) k := lt_s (p := fun k : Nat => vp_V (oM gm 0 0 0 0 0 0 (-1)) k = vp_V (fs_96.mapIdx (pfv (rho gx gm) ph0 96)) k) h_29 v96_29.symm
  have h_31 : ∀ k : Nat, k < 31 → (fun k : Nat => vp_V (oM gm 0 0 0 0 0 0 (-1)) k = vp_V (fs_96.mapIdx (pfv (rho gx gm) ph0 96)) k) k := lt_s (p := fun k : Nat => vp_V (oM gm 0 0 0 0 0 0 (-1)) k = vp_V (fs_96.mapIdx (pfv (rho gx gm) ph0 96)) k) h_30 v96_30.symm
  have h_32 : ∀ k : Nat, k < 32 → (fun k : Nat => vp_V (oM gm 0 0 0 0 0 0 (-1)) k = vp_V (fs_96.mapIdx (pfv (rho gx gm) ph0 96)) k) k := lt_s (p := fun k : Nat => vp_V (oM gm 0 0 0 0 0 0 (-1)) k = vp_V (fs_96.mapIdx (pfv (rho gx gm) ph0 96)) k) h_31 v96_31.symm
  have h_33 : ∀ k : Nat, k < 33 → (fun k : Nat => vp_V (oM gm 0 0 0 0 0 0 (-1)) k = vp_V (fs_96.mapIdx (pfv (rho gx gm) ph0 96)) k) k := lt_s (p := fun k : Nat => vp_V (oM gm 0 0 0 0 0 0 (-1)) k = vp_V (fs_96.mapIdx (pfv (rho gx gm) ph0 96)) k) h_32 v96_32.symm
  have h_34 : ∀ k : Nat, k < 34 → (fun k : Nat => vp_V (oM gm 0 0 0 0 0 0 (-1)) k = vp_V (fs_96.mapIdx (pfv (rho gx gm) ph0 96)) k) k := lt_s (p := fun k : Nat => vp_V (oM gm 0 0 0 0 0 0 (-1)) k = vp_V (fs_96.mapIdx (pfv (rho gx gm) ph0 96)) k) h_33 v96_33.symm
  have h_35 : ∀ k : Nat, k < 35 → (fun k : Nat => vp_V (oM gm 0 0 0 0 0 0 (-1)) k = vp_V (fs_96.mapIdx (pfv (rho gx gm) ph0 96)) k) k := lt_s (p := fun k : Nat => vp_V (oM gm 0 0 0 0 0 0 (-1)) k = vp_V (fs_96.mapIdx (pfv (rho gx gm) ph0 96)) k) h_34 v96_34.symm
  have h_36 : ∀ k : Nat, k < 36 → (fun k : Nat => vp_V (oM gm 0 0 0 0 0 0 (-1)) k = vp_V (fs_96.mapIdx (pfv (rho gx gm) ph0 96)) k) k := lt_s (p := fun k : Nat => vp_V (oM gm 0 0 0 0 0 0 (-1)) k = vp_V (fs_96.mapIdx (pfv (rho gx gm) ph0 96)) k) h_35 v96_35.symm
  have h_37 : ∀ k : Nat, k < 37 → (fun k : Nat => vp_V (oM gm 0 0 0 0 0 0 (-1)) k = vp_V (fs_96.mapIdx (pfv (rho gx gm) ph0 96)) k) k := lt_s (p := fun k : Nat => vp_V (oM gm 0 0 0 0 0 0 (-1)) k = vp_V (fs_96.mapIdx (pfv (rho gx gm) ph0 96)) k) h_36 v96_36.symm
  have h_38 : ∀ k : Nat, k < 38 → (fun k : Nat => vp_V (oM gm 0 0 0 0 0 0 (-1)) k = vp_V (fs_96.mapIdx (pfv (rho gx gm) ph0 96)) k) k := lt_s (p := fun k : Nat => vp_V (oM gm 0 0 0 0 0 0 (-1)) k = vp_V (fs_96.mapIdx (pfv (rho gx gm) ph0 96)) k) h_37 v96_37.symm
  have h_39 : ∀ k : Nat, k < 39 → (fun k : Nat => vp_V (oM gm 0 0 0 0 0 0 (-1)) k = vp_V (fs_96.mapIdx (pfv (rho gx gm) ph0 96)) k) k := lt_s (p := fun k : Nat => vp_V (oM gm 0 0 0 0 0 0 (-1)) k = vp_V (fs_96.mapIdx (pfv (rho gx gm) ph0 96)) k) h_38 v96_38.symm
  have h_40 : ∀ k : Nat, k < 40 → (fun k : Nat => vp_V (oM gm 0 0 0 0 0 0 (-1)) k = vp_V (fs_96.mapIdx (pfv (rho gx gm) ph0 96)) k) k := lt_s (p := fun k : Nat => vp_V (oM gm 0 0 0 0 0 0 (-1)) k = vp_V (fs_96.mapIdx (pfv (rho gx gm) ph0 96)) k) h_39 v96_39.symm
  have h_41 : ∀ k : Nat, k < 41 → (fun k : Nat => vp_V (oM gm 0 0 0 0 0 0 (-1)) k = vp_V (fs_96.mapIdx (pfv (rho gx gm) ph0 96)) k) k := lt_s (p := fun k : Nat => vp_V (oM gm 0 0 0 0 0 0 (-1)) k = vp_V (fs_96.mapIdx (pfv (rho gx gm) ph0 96)) k) h_40 v96_40.symm
  have h_42 : ∀ k : Nat, k < 42 → (fun k : Nat => vp_V (oM gm 0 0 0 0 0 0 (-1)) k = vp_V (fs_96.mapIdx (pfv (rho gx gm) ph0 96)) k) k := lt_s (p := fun k : Nat => vp_V (oM gm 0 0 0 0 0 0 (-1)) k = vp_V (fs_96.mapIdx (pfv (rho gx gm) ph0 96)) k) h_41 v96_41.symm
  have h_43 : ∀ k : Nat, k < 43 → (fun k : Nat => vp_V (oM gm 0 0 0 0 0 0 (-1)) k = vp_V (fs_96.mapIdx (pfv (rho gx gm) ph0 96)) k) k := lt_s (p := fun k : Nat => vp_V (oM gm 0 0 0 0 0 0 (-1)) k = vp_V (fs_96.mapIdx (pfv (rho gx gm) ph0 96)) k) h_42 v96_42.symm
  have h_44 : ∀ k : Nat, k < 44 → (fun k : Nat => vp_V (oM gm 0 0 0 0 0 0 (-1)) k = vp_V (fs_96.mapIdx (pfv (rho gx gm) ph0 96)) k) k := lt_s (p := fun k : Nat => vp_V (oM gm 0 0 0 0 0 0 (-1)) k = vp_V (fs_96.mapIdx (pfv (rho gx gm) ph0 96)) k) h_43 v96_43.symm
  have h_45 : ∀ k : Nat, k < 45 → (fun k : Nat => vp_V (oM gm 0 0 0 0 0 0 (-1)) k = vp_V (fs_96.mapIdx (pfv (rho gx gm) ph0 96)) k) k := lt_s (p := fun k : Nat => vp_V (oM gm 0 0 0 0 0 0 (-1)) k = vp_V (fs_96.mapIdx (pfv (rho gx gm) ph0 96)) k) h_44 v96_44.symm
  have h_46 : ∀ k : Nat, k < 46 → (fun k : Nat => vp_V (oM gm 0 0 0 0 0 0 (-1)) k = vp_V (fs_96.mapIdx (pfv (rho gx gm) ph0 96)) k) k := lt_s (p := fun k : Nat => vp_V (oM gm 0 0 0 0 0 0 (-1)) k = vp_V (fs_96.mapIdx (pfv (rho gx gm) ph0 96)) k) h_45 v96_45.symm
  have h_47 : ∀ k : Nat, k < 47 → (fun k : Nat => vp_V (oM gm 0 0 0 0 0 0 (-1)) k = vp_V (fs_96.mapIdx (pfv (rho gx gm) ph0 96)) k) k := lt_s (p := fun k : Nat => vp_V (oM gm 0 0 0 0 0 0 (-1)) k = vp_V (fs_96.mapIdx (pfv (rho gx gm) ph0 96)) k) h_46 v96_46.symm
  have h_48 : ∀ k : Nat, k < 48 → (fun k : Nat => vp_V (oM gm 0 0 0 0 0 0 (-1)) k = vp_V (fs_96.mapIdx (pfv (rho gx gm) ph0 96)) k) k := lt_s (p := fun k : Nat => vp_V (oM gm 0 0 0 0 0 0 (-1)) k = vp_V (fs_96.mapIdx (pfv (rho gx gm) ph0 96)) k) h_47 v96_47.symm
  have h_49 : ∀ k : Nat, k < 49 → (fun k : Nat => vp_V (oM gm 0 0 0 0 0 0 (-1)) k = vp_V (fs_96.mapIdx (pfv (rho gx gm) ph0 96)) k) k := lt_s (p := fun k : Nat => vp_V (oM gm 0 0 0 0 0 0 (-1)) k = vp_V (fs_96.mapIdx (pfv (rho gx gm) ph0 96)) k) h_48 v96_48.symm
  have h_50 : ∀ k : Nat, k < 50 → (fun k : Nat => vp_V (oM gm 0 0 0 0 0 0 (-1)) k = vp_V (fs_96.mapIdx (pfv (rho gx gm) ph0 96)) k) k := lt_s (p := fun k : Nat => vp_V (oM gm 0 0 0 0 0 0 (-1)) k = vp_V (fs_96.mapIdx (pfv (rho gx gm) ph0 96)) k) h_49 v96_49.symm
  have h_51 : ∀ k : Nat, k < 51 → (fun k : Nat => vp_V (oM gm 0 0 0 0 0 0 (-1)) k = vp_V (fs_96.mapIdx (pfv (rho gx gm) ph0 96)) k) k := lt_s (p := fun k : Nat => vp_V (oM gm 0 0 0 0 0 0 (-1)) k = vp_V (fs_96.mapIdx (pfv (rho gx gm) ph0 96)) k) h_50 v96_50.symm
  have h_52 : ∀ k : Nat, k < 52 → (fun k : Nat => vp_V (oM gm 0 0 0 0 0 0 (-1)) k = vp_V (fs_96.mapIdx (pfv (rho gx gm) ph0 96)) k) k := lt_s (p := fun k : Nat => vp_V (oM gm 0 0 0 0 0 0 (-1)) k = vp_V (fs_96.mapIdx (pfv (rho gx gm) ph0 96)) k) h_51 v96_51.symm
  have h_53 : ∀ k : Nat, k < 53 → (fun k : Nat => vp_V (oM gm 0 0 0 0 0 0 (-1)) k = vp_V (fs_96.mapIdx (pfv (rho gx gm) ph0 96)) k) k := lt_s (p := fun k : Nat => vp_V (oM gm 0 0 0 0 0 0 (-1)) k = vp_V (fs_96.mapIdx (pfv (rho gx gm) ph0 96)) k) h_52 v96_52.symm
  have h_54 : ∀ k : Nat, k < 54 → (fun k : Nat => vp_V (oM gm 0 0 0 0 0 0 (-1)) k = vp_V (fs_96.mapIdx (pfv (rho gx gm) ph0 96)) k) k := lt_s (p := fun k : Nat => vp_V (oM gm 0 0 0 0 0 0 (-1)) k = vp_V (fs_96.mapIdx (pfv (rho gx gm) ph0 96)) k) h_53 v96_53.symm
  have h_55 : ∀ k : Nat, k < 55 → (fun k : Nat => vp_V (oM gm 0 0 0 0 0 0 (-1)) k = vp_V (fs_96.mapIdx (pfv (rho gx gm) ph0 96)) k) k := lt_s (p := fun k : Nat => vp_V (oM gm 0 0 0 0 0 0 (-1)) k = vp_V (fs_96.mapIdx (pfv (rho gx gm) ph0 96)) k) h_54 v96_54.symm
  have h_56 : ∀ k : Nat, k < 56 → (fun k : Nat => vp_V (oM gm 0 0 0 0 0 0 (-1)) k = vp_V (fs_96.mapIdx (pfv (rho gx gm) ph0 96)) k) k := lt_s (p := fun k : Nat => vp_V (oM gm 0 0 0 0 0 0 (-1)) k = vp_V (fs_96.mapIdx (pfv (rho gx gm) ph0 96)) k) h_55 v96_55.symm
  have h_57 : ∀ k : Nat, k < 57 → (fun k : Nat => vp_V (oM gm 0 0 0 0 0 0 (-1)) k = vp_V (fs_96.mapIdx (pfv (rho gx gm) ph0 96)) k) k := lt_s (p := fun k : Nat => vp_V (oM gm 0 0 0 0 0 0 (-1)) k = vp_V (fs_96.mapIdx (pfv (rho gx gm) ph0 96)) k) h_56 v96_56.symm
  have h_58 : ∀ k : Nat, k < 58 → (fun k : Nat => vp_V (oM gm 0 0 0 0 0 0 (-1)) k = vp_V (fs_96.mapIdx (pfv (rho gx gm) ph0 96)) k) k := lt_s (p := fun k : Nat => vp_V (oM gm 0 0 0 0 0 0 (-1)) k = vp_V (fs_96.mapIdx (pfv (rho gx gm) ph0 96)) k) h_57 v96_57.symm
  have h_59 : ∀ k : Nat, k < 59 → (fun k : Nat => vp_V (oM gm 0 0 0 0 0 0 (-1)) k = vp_V (fs_96.mapIdx (pfv (rho gx gm) ph0 96)) k) k := lt_s (p := fun k : Nat => vp_V (oM gm 0 0 0 0 0 0 (-1)) k = vp_V (fs_96.mapIdx (pfv (rho gx gm) ph0 96)) k) h_58 v96_58.symm
  have h_60 : ∀ k : Nat, k < 60 → (fun k : Nat => vp_V (oM gm 0 0 0 0 0 0 (-1)) k = vp_V (fs_96.mapIdx (pfv (rho gx gm) ph0 96)) k) k := lt_s (p := fun k : Nat => vp_V (oM gm 0 0 0 0 0 0 (-1)) k = vp_V (fs_96.mapIdx (pfv (rho gx gm) ph0 96)) k) h_59 v96_59.symm
  have h_61 : ∀ k : Nat, k < 61 → (fun k : Nat => vp_V (oM gm 0 0 0 0 0 0 (-1)) k = vp_V (fs_96.mapIdx (pfv (rho gx gm) ph0 96)) k) k := lt_s (p := fun k : Nat => vp_V (oM gm 0 0 0 0 0 0 (-1)) k = vp_V (fs_96.mapIdx (pfv (rho gx gm) ph0 96)) k) h_60 v96_60.symm
  exact h_61
theorem va96 {dC : Nat → ClassId} {dI : Nat → Nat → Nat} {gx gm : Nat → Nat} {H : Heap} (z : va_at (dC, dI) vwCl (gm 0, .inr (9, oM gm 0 0 0 0 0 0 (-1))) H) : va_at (dC, dI) vwCl (rho gx gm 96, .inr (9, fs_96.mapIdx (pfv (rho gx gm) ph0 96))) H := by
  obtain ⟨r0, e0, cell, z1, z2, z3, z4⟩ := z
  have hr : r0.2.2 = 61 := by cases e0; rfl
  refine ⟨r0, e0, cell, z1, z2, z3, fun k hk => ?_⟩
  have e := v96 (gx := gx) (gm := gm) k (by omega)
  have z5 := z4 k hk
  generalize vp_V (fs_96.mapIdx (pfv (rho gx gm) ph0 96)) k = B at e ⊢
  rw [← e]
  exact z5
set_option maxRecDepth 100000 in
theorem pb_96 {dC : Nat → ClassId} {dI : Nat → Nat → Nat} {s : State} {gx gm : Nat → Nat} {ax am : Nat → ClassId} {H : Heap} (hK : va_K (dC, dI) vwCl (tX ax ++ tM am) s) (hP : va_P (dC, dI) vwCl (wX gx ax ++ wM gm am) H) : ∀ q, (toW (rho gx gm) (clA ax) ph0)[96]? = some q → va_at (dC, dI) vwCl q H := fun q hq => by
  have z : va_at (dC, dI) vwCl (gm 0, .inr (9, oM gm 0 0 0 0 0 0 (-1))) H := hP 96 _ rfl
  rw [toW_at sh_96] at hq
  rw [← Option.some.inj hq]
  exact va96 z
set_option maxRecDepth 100000 in
theorem pb_97 {dC : Nat → ClassId} {dI : Nat → Nat → Nat} {s : State} {gx gm : Nat → Nat} {ax am : Nat → ClassId} {H : Heap} (hK : va_K (dC, dI) vwCl (tX ax ++ tM am) s) (hP : va_P (dC, dI) vwCl (wX gx ax ++ wM gm am) H) : ∀ q, (toW (rho gx gm) (clA ax) ph0)[97]? = some q → va_at (dC, dI) vwCl q H := fun q hq => by
  cases (toW_at sh_97).symm.trans hq
  have z : H[gm 1]? = some (vp_cell (am 1) (68, .inl (fun _ => 0))) := hP 97 _ rfl
  rw [show am 1 = ax 5 from ra_int (hK.2 83 _ rfl).2 (hK.2 1 _ rfl).2] at z
  exact z
set_option maxRecDepth 100000 in
theorem pb_98 {dC : Nat → ClassId} {dI : Nat → Nat → Nat} {s : State} {gx gm : Nat → Nat} {ax am : Nat → ClassId} {H : Heap} (hK : va_K (dC, dI) vwCl (tX ax ++ tM am) s) (hP : va_P (dC, dI) vwCl (wX gx ax ++ wM gm am) H) : ∀ q, (toW (rho gx gm) (clA ax) ph0)[98]? = some q → va_at (dC, dI) vwCl q H := fun q hq => by
  cases (toW_at sh_98).symm.trans hq
  have z : H[gm 2]? = some (vp_cell (am 2) (204, .inl (fun _ => 0))) := hP 98 _ rfl
  rw [show am 2 = ax 5 from ra_int (hK.2 84 _ rfl).2 (hK.2 1 _ rfl).2] at z
  exact z
set_option maxRecDepth 100000 in
theorem pb_99 {dC : Nat → ClassId} {dI : Nat → Nat → Nat} {s : State} {gx gm : Nat → Nat} {ax am : Nat → ClassId} {H : Heap} (hK : va_K (dC, dI) vwCl (tX ax ++ tM am) s) (hP : va_P (dC, dI) vwCl (wX gx ax ++ wM gm am) H) : ∀ q, (toW (rho gx gm) (clA ax) ph0)[99]? = some q → va_at (dC, dI) vwCl q H := fun q hq => by
  cases (toW_at sh_99).symm.trans hq
  have z : H[gm 3]? = some (vp_cell (am 3) (3, .inl (fun _ => 0))) := hP 99 _ rfl
  rw [show am 3 = ax 65 from ra_boolean (hK.2 85 _ rfl).2 (hK.2 57 _ rfl).2] at z
  exact z
set_option maxRecDepth 100000 in
theorem pb_100 {dC : Nat → ClassId} {dI : Nat → Nat → Nat} {s : State} {gx gm : Nat → Nat} {ax am : Nat → ClassId} {H : Heap} (hK : va_K (dC, dI) vwCl (tX ax ++ tM am) s) (hP : va_P (dC, dI) vwCl (wX gx ax ++ wM gm am) H) : ∀ q, (toW (rho gx gm) (clA ax) ph0)[100]? = some q → va_at (dC, dI) vwCl q H := fun q hq => by
  cases (toW_at sh_100).symm.trans hq
  have z : H[gm 4]? = some (vp_cell (am 4) (500, .inl (fun _ => 0))) := hP 100 _ rfl
  rw [show am 4 = ax 3 from ra_byte (hK.2 86 _ rfl).2 (hK.2 0 _ rfl).2] at z
  exact z
set_option maxRecDepth 100000 in
theorem pb_101 {dC : Nat → ClassId} {dI : Nat → Nat → Nat} {s : State} {gx gm : Nat → Nat} {ax am : Nat → ClassId} {H : Heap} (hK : va_K (dC, dI) vwCl (tX ax ++ tM am) s) (hP : va_P (dC, dI) vwCl (wX gx ax ++ wM gm am) H) : ∀ q, (toW (rho gx gm) (clA ax) ph0)[101]? = some q → va_at (dC, dI) vwCl q H := fun q hq => by
  cases (toW_at sh_101).symm.trans hq
  have z : H[gm 6]? = some (vp_cell (am 6) (5, .inl (fun _ => 0))) := hP 101 _ rfl
  rw [show am 6 = ax 5 from ra_int (hK.2 87 _ rfl).2 (hK.2 1 _ rfl).2] at z
  exact z
set_option maxRecDepth 100000 in
theorem pb_102 {dC : Nat → ClassId} {dI : Nat → Nat → Nat} {s : State} {gx gm : Nat → Nat} {ax am : Nat → ClassId} {H : Heap} (hK : va_K (dC, dI) vwCl (tX ax ++ tM am) s) (hP : va_P (dC, dI) vwCl (wX gx ax ++ wM gm am) H) : ∀ q, (toW (rho gx gm) (clA ax) ph0)[102]? = some q → va_at (dC, dI) vwCl q H := fun q hq => by
  cases (toW_at sh_102).symm.trans hq
  have z : H[gm 14]? = some (vp_cell (am 14) (68, .inl (fun _ => 0))) := hP 102 _ rfl
  rw [show am 14 = ax 5 from ra_int (hK.2 88 _ rfl).2 (hK.2 1 _ rfl).2] at z
  exact z
set_option maxRecDepth 100000 in
theorem pb_103 {dC : Nat → ClassId} {dI : Nat → Nat → Nat} {s : State} {gx gm : Nat → Nat} {ax am : Nat → ClassId} {H : Heap} (hK : va_K (dC, dI) vwCl (tX ax ++ tM am) s) (hP : va_P (dC, dI) vwCl (wX gx ax ++ wM gm am) H) : ∀ q, (toW (rho gx gm) (clA ax) ph0)[103]? = some q → va_at (dC, dI) vwCl q H := fun q hq => by
  cases (toW_at sh_103).symm.trans hq
  have z : H[gm 15]? = some (vp_cell (am 15) (6, .inl (fun _ => 0))) := hP 103 _ rfl
  rw [show am 15 = ax 5 from ra_int (hK.2 89 _ rfl).2 (hK.2 1 _ rfl).2] at z
  exact z
set_option maxRecDepth 100000 in
theorem pb_104 {dC : Nat → ClassId} {dI : Nat → Nat → Nat} {s : State} {gx gm : Nat → Nat} {ax am : Nat → ClassId} {H : Heap} (hK : va_K (dC, dI) vwCl (tX ax ++ tM am) s) (hP : va_P (dC, dI) vwCl (wX gx ax ++ wM gm am) H) : ∀ q, (toW (rho gx gm) (clA ax) ph0)[104]? = some q → va_at (dC, dI) vwCl q H := fun q hq => by
  cases (toW_at sh_104).symm.trans hq
  have z : H[gm 16]? = some (vp_cell (am 16) (360, .inl (fun _ => 0))) := hP 104 _ rfl
  rw [show am 16 = ax 65 from ra_boolean (hK.2 90 _ rfl).2 (hK.2 57 _ rfl).2] at z
  exact z
set_option maxRecDepth 100000 in
theorem pb_105 {dC : Nat → ClassId} {dI : Nat → Nat → Nat} {s : State} {gx gm : Nat → Nat} {ax am : Nat → ClassId} {H : Heap} (hK : va_K (dC, dI) vwCl (tX ax ++ tM am) s) (hP : va_P (dC, dI) vwCl (wX gx ax ++ wM gm am) H) : ∀ q, (toW (rho gx gm) (clA ax) ph0)[105]? = some q → va_at (dC, dI) vwCl q H := fun q hq => by
  cases (toW_at sh_105).symm.trans hq
  have z : H[gm 17]? = some (vp_cell (am 17) (6, .inl (fun _ => 0))) := hP 105 _ rfl
  rw [show am 17 = ax 5 from ra_int (hK.2 91 _ rfl).2 (hK.2 1 _ rfl).2] at z
  exact z
set_option maxRecDepth 100000 in
theorem pb_106 {dC : Nat → ClassId} {dI : Nat → Nat → Nat} {s : State} {gx gm : Nat → Nat} {ax am : Nat → ClassId} {H : Heap} (hK : va_K (dC, dI) vwCl (tX ax ++ tM am) s) (hP : va_P (dC, dI) vwCl (wX gx ax ++ wM gm am) H) : ∀ q, (toW (rho gx gm) (clA ax) ph0)[106]? = some q → va_at (dC, dI) vwCl q H := fun q hq => by
  cases (toW_at sh_106).symm.trans hq
  have z : H[gm 21]? = some (vp_cell (am 21) (60, .inl (fun _ => 0))) := hP 106 _ rfl
  rw [show am 21 = ax 65 from ra_boolean (hK.2 92 _ rfl).2 (hK.2 57 _ rfl).2] at z
  exact z
set_option maxRecDepth 100000 in
theorem pb_107 {dC : Nat → ClassId} {dI : Nat → Nat → Nat} {s : State} {gx gm : Nat → Nat} {ax am : Nat → ClassId} {H : Heap} (hK : va_K (dC, dI) vwCl (tX ax ++ tM am) s) (hP : va_P (dC, dI) vwCl (wX gx ax ++ wM gm am) H) : ∀ q, (toW (rho gx gm) (clA ax) ph0)[107]? = some q → va_at (dC, dI) vwCl q H := fun q hq => by
  cases (toW_at sh_107).symm.trans hq
  have z : H[gm 22]? = some (vp_cell (am 22) (6, .inl (fun _ => 0))) := hP 107 _ rfl
  rw [show am 22 = ax 5 from ra_int (hK.2 93 _ rfl).2 (hK.2 1 _ rfl).2] at z
  exact z
set_option maxRecDepth 100000 in
theorem pb_108 {dC : Nat → ClassId} {dI : Nat → Nat → Nat} {s : State} {gx gm : Nat → Nat} {ax am : Nat → ClassId} {H : Heap} (hK : va_K (dC, dI) vwCl (tX ax ++ tM am) s) (hP : va_P (dC, dI) vwCl (wX gx ax ++ wM gm am) H) : ∀ q, (toW (rho gx gm) (clA ax) ph0)[108]? = some q → va_at (dC, dI) vwCl q H := fun q hq => by
  cases (toW_at sh_108).symm.trans hq
  have z : H[gm 23]? = some (vp_cell (am 23) (6, .inl (fun _ => 0))) := hP 108 _ rfl
  rw [show am 23 = ax 5 from ra_int (hK.2 94 _ rfl).2 (hK.2 1 _ rfl).2] at z
  exact z
set_option maxRecDepth 100000 in
theorem pb_109 {dC : Nat → ClassId} {dI : Nat → Nat → Nat} {s : State} {gx gm : Nat → Nat} {ax am : Nat → ClassId} {H : Heap} (hK : va_K (dC, dI) vwCl (tX ax ++ tM am) s) (hP : va_P (dC, dI) vwCl (wX gx ax ++ wM gm am) H) : ∀ q, (toW (rho gx gm) (clA ax) ph0)[109]? = some q → va_at (dC, dI) vwCl q H := fun q hq => by
  cases (toW_at sh_109).symm.trans hq
  have z : H[gm 24]? = some (vp_cell (am 24) (23, .inl (fun _ => 0))) := hP 109 _ rfl
  rw [show am 24 = ax 5 from ra_int (hK.2 95 _ rfl).2 (hK.2 1 _ rfl).2] at z
  exact z
set_option maxRecDepth 100000 in
theorem pb_110 {dC : Nat → ClassId} {dI : Nat → Nat → Nat} {s : State} {gx gm : Nat → Nat} {ax am : Nat → ClassId} {H : Heap} (hK : va_K (dC, dI) vwCl (tX ax ++ tM am) s) (hP : va_P (dC, dI) vwCl (wX gx ax ++ wM gm am) H) : ∀ q, (toW (rho gx gm) (clA ax) ph0)[110]? = some q → va_at (dC, dI) vwCl q H := fun q hq => by
  cases (toW_at sh_110).symm.trans hq
  have z : H[gm 25]? = some (vp_cell (am 25) (360, .inl (fun _ => 0))) := hP 110 _ rfl
  rw [show am 25 = ax 5 from ra_int (hK.2 96 _ rfl).2 (hK.2 1 _ rfl).2] at z
  exact z
set_option maxRecDepth 100000 in
theorem pb_111 {dC : Nat → ClassId} {dI : Nat → Nat → Nat} {s : State} {gx gm : Nat → Nat} {ax am : Nat → ClassId} {H : Heap} (hK : va_K (dC, dI) vwCl (tX ax ++ tM am) s) (hP : va_P (dC, dI) vwCl (wX gx ax ++ wM gm am) H) : ∀ q, (toW (rho gx gm) (clA ax) ph0)[111]? = some q → va_at (dC, dI) vwCl q H := fun q hq => by
  cases (toW_at sh_111).symm.trans hq
  have z : H[gm 26]? = some (vp_cell (am 26) (360, .inl (fun _ => 0))) := hP 111 _ rfl
  rw [show am 26 = ax 5 from ra_int (hK.2 97 _ rfl).2 (hK.2 1 _ rfl).2] at z
  exact z
set_option maxRecDepth 100000 in
theorem pb_112 {dC : Nat → ClassId} {dI : Nat → Nat → Nat} {s : State} {gx gm : Nat → Nat} {ax am : Nat → ClassId} {H : Heap} (hK : va_K (dC, dI) vwCl (tX ax ++ tM am) s) (hP : va_P (dC, dI) vwCl (wX gx ax ++ wM gm am) H) : ∀ q, (toW (rho gx gm) (clA ax) ph0)[112]? = some q → va_at (dC, dI) vwCl q H := fun q hq => by
  cases (toW_at sh_112).symm.trans hq
  have z : H[gm 27]? = some (vp_cell (am 27) (60, .inl (fun _ => 0))) := hP 112 _ rfl
  rw [show am 27 = ax 5 from ra_int (hK.2 98 _ rfl).2 (hK.2 1 _ rfl).2] at z
  exact z
set_option maxRecDepth 100000 in
theorem pb_113 {dC : Nat → ClassId} {dI : Nat → Nat → Nat} {s : State} {gx gm : Nat → Nat} {ax am : Nat → ClassId} {H : Heap} (hK : va_K (dC, dI) vwCl (tX ax ++ tM am) s) (hP : va_P (dC, dI) vwCl (wX gx ax ++ wM gm am) H) : ∀ q, (toW (rho gx gm) (clA ax) ph0)[113]? = some q → va_at (dC, dI) vwCl q H := fun q hq => by
  cases (toW_at sh_113).symm.trans hq
  have z : H[gm 28]? = some (vp_cell (am 28) (60, .inl (fun _ => 0))) := hP 113 _ rfl
  rw [show am 28 = ax 5 from ra_int (hK.2 99 _ rfl).2 (hK.2 1 _ rfl).2] at z
  exact z
set_option maxRecDepth 100000 in
theorem pb_114 {dC : Nat → ClassId} {dI : Nat → Nat → Nat} {s : State} {gx gm : Nat → Nat} {ax am : Nat → ClassId} {H : Heap} (hK : va_K (dC, dI) vwCl (tX ax ++ tM am) s) (hP : va_P (dC, dI) vwCl (wX gx ax ++ wM gm am) H) : ∀ q, (toW (rho gx gm) (clA ax) ph0)[114]? = some q → va_at (dC, dI) vwCl q H := fun q hq => by
  cases (toW_at sh_114).symm.trans hq
  have z : H[gm 29]? = some (vp_cell (am 29) (60, .inl (fun _ => 0))) := hP 114 _ rfl
  rw [show am 29 = ax 5 from ra_int (hK.2 100 _ rfl).2 (hK.2 1 _ rfl).2] at z
  exact z
set_option maxRecDepth 100000 in
theorem pb_115 {dC : Nat → ClassId} {dI : Nat → Nat → Nat} {s : State} {gx gm : Nat → Nat} {ax am : Nat → ClassId} {H : Heap} (hK : va_K (dC, dI) vwCl (tX ax ++ tM am) s) (hP : va_P (dC, dI) vwCl (wX gx ax ++ wM gm am) H) : ∀ q, (toW (rho gx gm) (clA ax) ph0)[115]? = some q → va_at (dC, dI) vwCl q H := fun q hq => by
  cases (toW_at sh_115).symm.trans hq
  have z : H[gm 30]? = some (vp_cell (am 30) (60, .inl (fun _ => 0))) := hP 115 _ rfl
  rw [show am 30 = ax 5 from ra_int (hK.2 101 _ rfl).2 (hK.2 1 _ rfl).2] at z
  exact z
set_option maxRecDepth 100000 in
theorem pb_116 {dC : Nat → ClassId} {dI : Nat → Nat → Nat} {s : State} {gx gm : Nat → Nat} {ax am : Nat → ClassId} {H : Heap} (hK : va_K (dC, dI) vwCl (tX ax ++ tM am) s) (hP : va_P (dC, dI) vwCl (wX gx ax ++ wM gm am) H) : ∀ q, (toW (rho gx gm) (clA ax) ph0)[116]? = some q → va_at (dC, dI) vwCl q H := fun q hq => by
  cases (toW_at sh_116).symm.trans hq
  have z : H[gm 31]? = some (vp_cell (am 31) (60, .inl (fun _ => 0))) := hP 116 _ rfl
  rw [show am 31 = ax 5 from ra_int (hK.2 102 _ rfl).2 (hK.2 1 _ rfl).2] at z
  exact z
set_option maxRecDepth 100000 in
theorem pb_117 {dC : Nat → ClassId} {dI : Nat → Nat → Nat} {s : State} {gx gm : Nat → Nat} {ax am : Nat → ClassId} {H : Heap} (hK : va_K (dC, dI) vwCl (tX ax ++ tM am) s) (hP : va_P (dC, dI) vwCl (wX gx ax ++ wM gm am) H) : ∀ q, (toW (rho gx gm) (clA ax) ph0)[117]? = some q → va_at (dC, dI) vwCl q H := fun q hq => by
  cases (toW_at sh_117).symm.trans hq
  have z : H[gm 32]? = some (vp_cell (am 32) (6, .inl (fun _ => 0))) := hP 117 _ rfl
  rw [show am 32 = ax 5 from ra_int (hK.2 103 _ rfl).2 (hK.2 1 _ rfl).2] at z
  exact z
set_option maxRecDepth 100000 in
theorem pb_118 {dC : Nat → ClassId} {dI : Nat → Nat → Nat} {s : State} {gx gm : Nat → Nat} {ax am : Nat → ClassId} {H : Heap} (hK : va_K (dC, dI) vwCl (tX ax ++ tM am) s) (hP : va_P (dC, dI) vwCl (wX gx ax ++ wM gm am) H) : ∀ q, (toW (rho gx gm) (clA ax) ph0)[118]? = some q → va_at (dC, dI) vwCl q H := fun q hq => by
  cases (toW_at sh_118).symm.trans hq
  have z : H[gm 33]? = some (vp_cell (am 33) (6, .inl (fun _ => 0))) := hP 118 _ rfl
  rw [show am 33 = ax 5 from ra_int (hK.2 104 _ rfl).2 (hK.2 1 _ rfl).2] at z
  exact z
set_option maxRecDepth 100000 in
theorem pb_119 {dC : Nat → ClassId} {dI : Nat → Nat → Nat} {s : State} {gx gm : Nat → Nat} {ax am : Nat → ClassId} {H : Heap} (hK : va_K (dC, dI) vwCl (tX ax ++ tM am) s) (hP : va_P (dC, dI) vwCl (wX gx ax ++ wM gm am) H) : ∀ q, (toW (rho gx gm) (clA ax) ph0)[119]? = some q → va_at (dC, dI) vwCl q H := fun q hq => by
  cases (toW_at sh_119).symm.trans hq
  have z : H[gm 37]? = some (vp_cell (am 37) (6, .inl (fun _ => 0))) := hP 119 _ rfl
  rw [show am 37 = ax 5 from ra_int (hK.2 105 _ rfl).2 (hK.2 1 _ rfl).2] at z
  exact z
set_option maxRecDepth 100000 in
theorem pb_120 {dC : Nat → ClassId} {dI : Nat → Nat → Nat} {s : State} {gx gm : Nat → Nat} {ax am : Nat → ClassId} {H : Heap} (hK : va_K (dC, dI) vwCl (tX ax ++ tM am) s) (hP : va_P (dC, dI) vwCl (wX gx ax ++ wM gm am) H) : ∀ q, (toW (rho gx gm) (clA ax) ph0)[120]? = some q → va_at (dC, dI) vwCl q H := fun q hq => by
  cases (toW_at sh_120).symm.trans hq
  have z : H[gm 38]? = some (vp_cell (am 38) (60, .inl (fun _ => 0))) := hP 120 _ rfl
  rw [show am 38 = ax 5 from ra_int (hK.2 106 _ rfl).2 (hK.2 1 _ rfl).2] at z
  exact z
set_option maxRecDepth 100000 in
theorem pb_121 {dC : Nat → ClassId} {dI : Nat → Nat → Nat} {s : State} {gx gm : Nat → Nat} {ax am : Nat → ClassId} {H : Heap} (hK : va_K (dC, dI) vwCl (tX ax ++ tM am) s) (hP : va_P (dC, dI) vwCl (wX gx ax ++ wM gm am) H) : ∀ q, (toW (rho gx gm) (clA ax) ph0)[121]? = some q → va_at (dC, dI) vwCl q H := fun q hq => by
  cases (toW_at sh_121).symm.trans hq
  have z : H[gm 39]? = some (vp_cell (am 39) (29, .inl (fun _ => 0))) := hP 121 _ rfl
  rw [show am 39 = ax 5 from ra_int (hK.2 107 _ rfl).2 (hK.2 1 _ rfl).2] at z
  exact z
set_option maxRecDepth 100000 in
theorem pb_122 {dC : Nat → ClassId} {dI : Nat → Nat → Nat} {s : State} {gx gm : Nat → Nat} {ax am : Nat → ClassId} {H : Heap} (hK : va_K (dC, dI) vwCl (tX ax ++ tM am) s) (hP : va_P (dC, dI) vwCl (wX gx ax ++ wM gm am) H) : ∀ q, (toW (rho gx gm) (clA ax) ph0)[122]? = some q → va_at (dC, dI) vwCl q H := fun q hq => by
  cases (toW_at sh_122).symm.trans hq
  have z : H[gm 40]? = some (vp_cell (am 40) (29, .inl (fun _ => 0))) := hP 122 _ rfl
  rw [show am 40 = ax 5 from ra_int (hK.2 108 _ rfl).2 (hK.2 1 _ rfl).2] at z
  exact z
set_option maxRecDepth 100000 in
theorem pb_123 {dC : Nat → ClassId} {dI : Nat → Nat → Nat} {s : State} {gx gm : Nat → Nat} {ax am : Nat → ClassId} {H : Heap} (hK : va_K (dC, dI) vwCl (tX ax ++ tM am) s) (hP : va_P (dC, dI) vwCl (wX gx ax ++ wM gm am) H) : ∀ q, (toW (rho gx gm) (clA ax) ph0)[123]? = some q → va_at (dC, dI) vwCl q H := fun q hq => by
  cases (toW_at sh_123).symm.trans hq
  have z : H[gm 45]? = some (vp_cell (am 45) (6, .inl (fun _ => 0))) := hP 123 _ rfl
  rw [show am 45 = ax 5 from ra_int (hK.2 109 _ rfl).2 (hK.2 1 _ rfl).2] at z
  exact z
set_option maxRecDepth 100000 in
theorem pb_124 {dC : Nat → ClassId} {dI : Nat → Nat → Nat} {s : State} {gx gm : Nat → Nat} {ax am : Nat → ClassId} {H : Heap} (hK : va_K (dC, dI) vwCl (tX ax ++ tM am) s) (hP : va_P (dC, dI) vwCl (wX gx ax ++ wM gm am) H) : ∀ q, (toW (rho gx gm) (clA ax) ph0)[124]? = some q → va_at (dC, dI) vwCl q H := fun q hq => by
  cases (toW_at sh_124).symm.trans hq
  have z : H[gm 49]? = some (vp_cell (am 49) (4320, .inl (fun _ => 0))) := hP 124 _ rfl
  rw [show am 49 = ax 3 from ra_byte (hK.2 110 _ rfl).2 (hK.2 0 _ rfl).2] at z
  exact z
set_option maxRecDepth 100000 in
theorem pb_125 {dC : Nat → ClassId} {dI : Nat → Nat → Nat} {s : State} {gx gm : Nat → Nat} {ax am : Nat → ClassId} {H : Heap} (hK : va_K (dC, dI) vwCl (tX ax ++ tM am) s) (hP : va_P (dC, dI) vwCl (wX gx ax ++ wM gm am) H) : ∀ q, (toW (rho gx gm) (clA ax) ph0)[125]? = some q → va_at (dC, dI) vwCl q H := fun q hq => by
  cases (toW_at sh_125).symm.trans hq
  have z : H[gm 50]? = some (vp_cell (am 50) (43200, .inl (fun _ => 0))) := hP 125 _ rfl
  rw [show am 50 = ax 3 from ra_byte (hK.2 111 _ rfl).2 (hK.2 0 _ rfl).2] at z
  exact z
set_option maxRecDepth 100000 in
theorem pb_126 {dC : Nat → ClassId} {dI : Nat → Nat → Nat} {s : State} {gx gm : Nat → Nat} {ax am : Nat → ClassId} {H : Heap} (hK : va_K (dC, dI) vwCl (tX ax ++ tM am) s) (hP : va_P (dC, dI) vwCl (wX gx ax ++ wM gm am) H) : ∀ q, (toW (rho gx gm) (clA ax) ph0)[126]? = some q → va_at (dC, dI) vwCl q H := fun q hq => by
  cases (toW_at sh_126).symm.trans hq
  have z : H[gm 53]? = some (vp_cell (am 53) (64, .inl (fun _ => 0))) := hP 126 _ rfl
  rw [show am 53 = ax 5 from ra_int (hK.2 112 _ rfl).2 (hK.2 1 _ rfl).2] at z
  exact z
set_option maxRecDepth 100000 in
theorem pb_127 {dC : Nat → ClassId} {dI : Nat → Nat → Nat} {s : State} {gx gm : Nat → Nat} {ax am : Nat → ClassId} {H : Heap} (hK : va_K (dC, dI) vwCl (tX ax ++ tM am) s) (hP : va_P (dC, dI) vwCl (wX gx ax ++ wM gm am) H) : ∀ q, (toW (rho gx gm) (clA ax) ph0)[127]? = some q → va_at (dC, dI) vwCl q H := fun q hq => by
  cases (toW_at sh_127).symm.trans hq
  have z : H[gm 57]? = some (vp_cell (am 57) (4, .inl nF)) := hP 127 _ rfl
  rw [show am 57 = ax 5 from ra_int (hK.2 113 _ rfl).2 (hK.2 1 _ rfl).2] at z
  exact z
set_option maxRecDepth 100000 in
theorem pb_128 {dC : Nat → ClassId} {dI : Nat → Nat → Nat} {s : State} {gx gm : Nat → Nat} {ax am : Nat → ClassId} {H : Heap} (hK : va_K (dC, dI) vwCl (tX ax ++ tM am) s) (hP : va_P (dC, dI) vwCl (wX gx ax ++ wM gm am) H) : ∀ q, (toW (rho gx gm) (clA ax) ph0)[128]? = some q → va_at (dC, dI) vwCl q H := fun q hq => by
  cases (toW_at sh_128).symm.trans hq
  have z : H[gm 58]? = some (vp_cell (am 58) (4, .inl (fun _ => 0))) := hP 128 _ rfl
  rw [show am 58 = ax 5 from ra_int (hK.2 114 _ rfl).2 (hK.2 1 _ rfl).2] at z
  exact z
set_option maxRecDepth 100000 in
theorem pb_129 {dC : Nat → ClassId} {dI : Nat → Nat → Nat} {s : State} {gx gm : Nat → Nat} {ax am : Nat → ClassId} {H : Heap} (hK : va_K (dC, dI) vwCl (tX ax ++ tM am) s) (hP : va_P (dC, dI) vwCl (wX gx ax ++ wM gm am) H) : ∀ q, (toW (rho gx gm) (clA ax) ph0)[129]? = some q → va_at (dC, dI) vwCl q H := fun q hq => by
  cases (toW_at sh_129).symm.trans hq
  have z : H[gm 59]? = some (vp_cell (am 59) (240, .inr (.inl (fun _ => 0)))) := hP 129 _ rfl
  rw [show am 59 = ax 9 from ra_long (hK.2 115 _ rfl).2 (hK.2 5 _ rfl).2] at z
  exact z
set_option maxRecDepth 100000 in
theorem pb_130 {dC : Nat → ClassId} {dI : Nat → Nat → Nat} {s : State} {gx gm : Nat → Nat} {ax am : Nat → ClassId} {H : Heap} (hK : va_K (dC, dI) vwCl (tX ax ++ tM am) s) (hP : va_P (dC, dI) vwCl (wX gx ax ++ wM gm am) H) : ∀ q, (toW (rho gx gm) (clA ax) ph0)[130]? = some q → va_at (dC, dI) vwCl q H := fun q hq => by
  cases (toW_at sh_130).symm.trans hq
  have z : H[gm 60]? = some (vp_cell (am 60) (60, .inr (.inl (fun _ => 0)))) := hP 130 _ rfl
  rw [show am 60 = ax 9 from ra_long (hK.2 116 _ rfl).2 (hK.2 5 _ rfl).2] at z
  exact z
set_option maxRecDepth 100000 in
theorem fb_0 {gx gm : Nat → Nat} {ax am : Nat → ClassId} : ∀ q, (toW (rho gx gm) (clA ax) ph0)[0]? = some q → ∃ q', (wX gx ax ++ wM gm am)[0]? = some q' ∧ q'.1 = q.1 := fun q hq => by
  rw [toW_at sh_0] at hq
  rw [← Option.some.inj hq]
  exact ⟨_, rfl, (rfl : (gx 0) = rho gx gm 0)⟩
set_option maxRecDepth 100000 in
theorem fb_1 {gx gm : Nat → Nat} {ax am : Nat → ClassId} : ∀ q, (toW (rho gx gm) (clA ax) ph0)[1]? = some q → ∃ q', (wX gx ax ++ wM gm am)[1]? = some q' ∧ q'.1 = q.1 := fun q hq => by
  rw [toW_at sh_1] at hq
  rw [← Option.some.inj hq]
  exact ⟨_, rfl, (rfl : (gx 1) = rho gx gm 1)⟩
set_option maxRecDepth 100000 in
theorem fb_2 {gx gm : Nat → Nat} {ax am : Nat → ClassId} : ∀ q, (toW (rho gx gm) (clA ax) ph0)[2]? = some q → ∃ q', (wX gx ax ++ wM gm am)[2]? = some q' ∧ q'.1 = q.1 := fun q hq => by
  rw [toW_at sh_2] at hq
  rw [← Option.some.inj hq]
  exact ⟨_, rfl, (rfl : (gx 2) = rho gx gm 2)⟩
set_option maxRecDepth 100000 in
theorem fb_3 {gx gm : Nat → Nat} {ax am : Nat → ClassId} : ∀ q, (toW (rho gx gm) (clA ax) ph0)[3]? = some q → ∃ q', (wX gx ax ++ wM gm am)[3]? = some q' ∧ q'.1 = q.1 := fun q hq => by
  rw [toW_at sh_3] at hq
  rw [← Option.some.inj hq]
  exact ⟨_, rfl, (rfl : (gx 3) = rho gx gm 3)⟩
set_option maxRecDepth 100000 in
theorem fb_4 {gx gm : Nat → Nat} {ax am : Nat → ClassId} : ∀ q, (toW (rho gx gm) (clA ax) ph0)[4]? = some q → ∃ q', (wX gx ax ++ wM gm am)[4]? = some q' ∧ q'.1 = q.1 := fun q hq => by
  rw [toW_at sh_4] at hq
  rw [← Option.some.inj hq]
  exact ⟨_, rfl, (rfl : (gx 4) = rho gx gm 4)⟩
set_option maxRecDepth 100000 in
theorem fb_5 {gx gm : Nat → Nat} {ax am : Nat → ClassId} : ∀ q, (toW (rho gx gm) (clA ax) ph0)[5]? = some q → ∃ q', (wX gx ax ++ wM gm am)[5]? = some q' ∧ q'.1 = q.1 := fun q hq => by
  rw [toW_at sh_5] at hq
  rw [← Option.some.inj hq]
  exact ⟨_, rfl, (rfl : (gx 5) = rho gx gm 5)⟩
set_option maxRecDepth 100000 in
theorem fb_6 {gx gm : Nat → Nat} {ax am : Nat → ClassId} : ∀ q, (toW (rho gx gm) (clA ax) ph0)[6]? = some q → ∃ q', (wX gx ax ++ wM gm am)[6]? = some q' ∧ q'.1 = q.1 := fun q hq => by
  rw [toW_at sh_6] at hq
  rw [← Option.some.inj hq]
  exact ⟨_, rfl, (rfl : (gx 6) = rho gx gm 6)⟩
set_option maxRecDepth 100000 in
theorem fb_7 {gx gm : Nat → Nat} {ax am : Nat → ClassId} : ∀ q, (toW (rho gx gm) (clA ax) ph0)[7]? = some q → ∃ q', (wX gx ax ++ wM gm am)[7]? = some q' ∧ q'.1 = q.1 := fun q hq => by
  rw [toW_at sh_7] at hq
  rw [← Option.some.inj hq]
  exact ⟨_, rfl, (rfl : (gx 7) = rho gx gm 7)⟩
set_option maxRecDepth 100000 in
theorem fb_8 {gx gm : Nat → Nat} {ax am : Nat → ClassId} : ∀ q, (toW (rho gx gm) (clA ax) ph0)[8]? = some q → ∃ q', (wX gx ax ++ wM gm am)[8]? = some q' ∧ q'.1 = q.1 := fun q hq => by
  rw [toW_at sh_8] at hq
  rw [← Option.some.inj hq]
  exact ⟨_, rfl, (rfl : (gx 8) = rho gx gm 8)⟩
set_option maxRecDepth 100000 in
theorem fb_9 {gx gm : Nat → Nat} {ax am : Nat → ClassId} : ∀ q, (toW (rho gx gm) (clA ax) ph0)[9]? = some q → ∃ q', (wX gx ax ++ wM gm am)[9]? = some q' ∧ q'.1 = q.1 := fun q hq => by
  rw [toW_at sh_9] at hq
  rw [← Option.some.inj hq]
  exact ⟨_, rfl, (rfl : (gx 9) = rho gx gm 9)⟩
set_option maxRecDepth 100000 in
theorem fb_10 {gx gm : Nat → Nat} {ax am : Nat → ClassId} : ∀ q, (toW (rho gx gm) (clA ax) ph0)[10]? = some q → ∃ q', (wX gx ax ++ wM gm am)[10]? = some q' ∧ q'.1 = q.1 := fun q hq => by
  rw [toW_at sh_10] at hq
  rw [← Option.some.inj hq]
  exact ⟨_, rfl, (rfl : (gx 10) = rho gx gm 10)⟩
set_option maxRecDepth 100000 in
theorem fb_11 {gx gm : Nat → Nat} {ax am : Nat → ClassId} : ∀ q, (toW (rho gx gm) (clA ax) ph0)[11]? = some q → ∃ q', (wX gx ax ++ wM gm am)[11]? = some q' ∧ q'.1 = q.1 := fun q hq => by
  rw [toW_at sh_11] at hq
  rw [← Option.some.inj hq]
  exact ⟨_, rfl, (rfl : (gx 11) = rho gx gm 11)⟩
set_option maxRecDepth 100000 in
theorem fb_12 {gx gm : Nat → Nat} {ax am : Nat → ClassId} : ∀ q, (toW (rho gx gm) (clA ax) ph0)[12]? = some q → ∃ q', (wX gx ax ++ wM gm am)[12]? = some q' ∧ q'.1 = q.1 := fun q hq => by
  rw [toW_at sh_12] at hq
  rw [← Option.some.inj hq]
  exact ⟨_, rfl, (rfl : (gx 12) = rho gx gm 12)⟩
set_option maxRecDepth 100000 in
theorem fb_13 {gx gm : Nat → Nat} {ax am : Nat → ClassId} : ∀ q, (toW (rho gx gm) (clA ax) ph0)[13]? = some q → ∃ q', (wX gx ax ++ wM gm am)[13]? = some q' ∧ q'.1 = q.1 := fun q hq => by
  rw [toW_at sh_13] at hq
  rw [← Option.some.inj hq]
  exact ⟨_, rfl, (rfl : (gx 13) = rho gx gm 13)⟩
set_option maxRecDepth 100000 in
theorem fb_14 {gx gm : Nat → Nat} {ax am : Nat → ClassId} : ∀ q, (toW (rho gx gm) (clA ax) ph0)[14]? = some q → ∃ q', (wX gx ax ++ wM gm am)[14]? = some q' ∧ q'.1 = q.1 := fun q hq => by
  rw [toW_at sh_14] at hq
  rw [← Option.some.inj hq]
  exact ⟨_, rfl, (rfl : (gx 14) = rho gx gm 14)⟩
set_option maxRecDepth 100000 in
theorem fb_15 {gx gm : Nat → Nat} {ax am : Nat → ClassId} : ∀ q, (toW (rho gx gm) (clA ax) ph0)[15]? = some q → ∃ q', (wX gx ax ++ wM gm am)[15]? = some q' ∧ q'.1 = q.1 := fun q hq => by
  rw [toW_at sh_15] at hq
  rw [← Option.some.inj hq]
  exact ⟨_, rfl, (rfl : (gx 15) = rho gx gm 15)⟩
set_option maxRecDepth 100000 in
theorem fb_16 {gx gm : Nat → Nat} {ax am : Nat → ClassId} : ∀ q, (toW (rho gx gm) (clA ax) ph0)[16]? = some q → ∃ q', (wX gx ax ++ wM gm am)[16]? = some q' ∧ q'.1 = q.1 := fun q hq => by
  rw [toW_at sh_16] at hq
  rw [← Option.some.inj hq]
  exact ⟨_, rfl, (rfl : (gx 16) = rho gx gm 16)⟩
set_option maxRecDepth 100000 in
theorem fb_17 {gx gm : Nat → Nat} {ax am : Nat → ClassId} : ∀ q, (toW (rho gx gm) (clA ax) ph0)[17]? = some q → ∃ q', (wX gx ax ++ wM gm am)[17]? = some q' ∧ q'.1 = q.1 := fun q hq => by
  rw [toW_at sh_17] at hq
  rw [← Option.some.inj hq]
  exact ⟨_, rfl, (rfl : (gx 17) = rho gx gm 17)⟩
set_option maxRecDepth 100000 in
theorem fb_18 {gx gm : Nat → Nat} {ax am : Nat → ClassId} : ∀ q, (toW (rho gx gm) (clA ax) ph0)[18]? = some q → ∃ q', (wX gx ax ++ wM gm am)[18]? = some q' ∧ q'.1 = q.1 := fun q hq => by
  rw [toW_at sh_18] at hq
  rw [← Option.some.inj hq]
  exact ⟨_, rfl, (rfl : (gx 18) = rho gx gm 18)⟩
set_option maxRecDepth 100000 in
theorem fb_19 {gx gm : Nat → Nat} {ax am : Nat → ClassId} : ∀ q, (toW (rho gx gm) (clA ax) ph0)[19]? = some q → ∃ q', (wX gx ax ++ wM gm am)[19]? = some q' ∧ q'.1 = q.1 := fun q hq => by
  rw [toW_at sh_19] at hq
  rw [← Option.some.inj hq]
  exact ⟨_, rfl, (rfl : (gx 19) = rho gx gm 19)⟩
set_option maxRecDepth 100000 in
theorem fb_20 {gx gm : Nat → Nat} {ax am : Nat → ClassId} : ∀ q, (toW (rho gx gm) (clA ax) ph0)[20]? = some q → ∃ q', (wX gx ax ++ wM gm am)[20]? = some q' ∧ q'.1 = q.1 := fun q hq => by
  rw [toW_at sh_20] at hq
  rw [← Option.some.inj hq]
  exact ⟨_, rfl, (rfl : (gx 20) = rho gx gm 20)⟩
set_option maxRecDepth 100000 in
theorem fb_21 {gx gm : Nat → Nat} {ax am : Nat → ClassId} : ∀ q, (toW (rho gx gm) (clA ax) ph0)[21]? = some q → ∃ q', (wX gx ax ++ wM gm am)[21]? = some q' ∧ q'.1 = q.1 := fun q hq => by
  rw [toW_at sh_21] at hq
  rw [← Option.some.inj hq]
  exact ⟨_, rfl, (rfl : (gx 21) = rho gx gm 21)⟩
set_option maxRecDepth 100000 in
theorem fb_22 {gx gm : Nat → Nat} {ax am : Nat → ClassId} : ∀ q, (toW (rho gx gm) (clA ax) ph0)[22]? = some q → ∃ q', (wX gx ax ++ wM gm am)[22]? = some q' ∧ q'.1 = q.1 := fun q hq => by
  rw [toW_at sh_22] at hq
  rw [← Option.some.inj hq]
  exact ⟨_, rfl, (rfl : (gx 22) = rho gx gm 22)⟩
set_option maxRecDepth 100000 in
theorem fb_23 {gx gm : Nat → Nat} {ax am : Nat → ClassId} : ∀ q, (toW (rho gx gm) (clA ax) ph0)[23]? = some q → ∃ q', (wX gx ax ++ wM gm am)[23]? = some q' ∧ q'.1 = q.1 := fun q hq => by
  rw [toW_at sh_23] at hq
  rw [← Option.some.inj hq]
  exact ⟨_, rfl, (rfl : (gx 23) = rho gx gm 23)⟩
set_option maxRecDepth 100000 in
theorem fb_24 {gx gm : Nat → Nat} {ax am : Nat → ClassId} : ∀ q, (toW (rho gx gm) (clA ax) ph0)[24]? = some q → ∃ q', (wX gx ax ++ wM gm am)[24]? = some q' ∧ q'.1 = q.1 := fun q hq => by
  rw [toW_at sh_24] at hq
  rw [← Option.some.inj hq]
  exact ⟨_, rfl, (rfl : (gx 24) = rho gx gm 24)⟩
set_option maxRecDepth 100000 in
theorem fb_25 {gx gm : Nat → Nat} {ax am : Nat → ClassId} : ∀ q, (toW (rho gx gm) (clA ax) ph0)[25]? = some q → ∃ q', (wX gx ax ++ wM gm am)[25]? = some q' ∧ q'.1 = q.1 := fun q hq => by
  rw [toW_at sh_25] at hq
  rw [← Option.some.inj hq]
  exact ⟨_, rfl, (rfl : (gx 25) = rho gx gm 25)⟩
set_option maxRecDepth 100000 in
theorem fb_26 {gx gm : Nat → Nat} {ax am : Nat → ClassId} : ∀ q, (toW (rho gx gm) (clA ax) ph0)[26]? = some q → ∃ q', (wX gx ax ++ wM gm am)[26]? = some q' ∧ q'.1 = q.1 := fun q hq => by
  rw [toW_at sh_26] at hq
  rw [← Option.some.inj hq]
  exact ⟨_, rfl, (rfl : (gx 26) = rho gx gm 26)⟩
set_option maxRecDepth 100000 in
theorem fb_27 {gx gm : Nat → Nat} {ax am : Nat → ClassId} : ∀ q, (toW (rho gx gm) (clA ax) ph0)[27]? = some q → ∃ q', (wX gx ax ++ wM gm am)[27]? = some q' ∧ q'.1 = q.1 := fun q hq => by
  rw [toW_at sh_27] at hq
  rw [← Option.some.inj hq]
  exact ⟨_, rfl, (rfl : (gx 27) = rho gx gm 27)⟩
set_option maxRecDepth 100000 in
theorem fb_28 {gx gm : Nat → Nat} {ax am : Nat → ClassId} : ∀ q, (toW (rho gx gm) (clA ax) ph0)[28]? = some q → ∃ q', (wX gx ax ++ wM gm am)[28]? = some q' ∧ q'.1 = q.1 := fun q hq => by
  rw [toW_at sh_28] at hq
  rw [← Option.some.inj hq]
  exact ⟨_, rfl, (rfl : (gx 28) = rho gx gm 28)⟩
set_option maxRecDepth 100000 in
theorem fb_29 {gx gm : Nat → Nat} {ax am : Nat → ClassId} : ∀ q, (toW (rho gx gm) (clA ax) ph0)[29]? = some q → ∃ q', (wX gx ax ++ wM gm am)[29]? = some q' ∧ q'.1 = q.1 := fun q hq => by
  rw [toW_at sh_29] at hq
  rw [← Option.some.inj hq]
  exact ⟨_, rfl, (rfl : (gx 29) = rho gx gm 29)⟩
set_option maxRecDepth 100000 in
theorem fb_30 {gx gm : Nat → Nat} {ax am : Nat → ClassId} : ∀ q, (toW (rho gx gm) (clA ax) ph0)[30]? = some q → ∃ q', (wX gx ax ++ wM gm am)[30]? = some q' ∧ q'.1 = q.1 := fun q hq => by
  rw [toW_at sh_30] at hq
  rw [← Option.some.inj hq]
  exact ⟨_, rfl, (rfl : (gx 30) = rho gx gm 30)⟩
set_option maxRecDepth 100000 in
theorem fb_31 {gx gm : Nat → Nat} {ax am : Nat → ClassId} : ∀ q, (toW (rho gx gm) (clA ax) ph0)[31]? = some q → ∃ q', (wX gx ax ++ wM gm am)[31]? = some q' ∧ q'.1 = q.1 := fun q hq => by
  rw [toW_at sh_31] at hq
  rw [← Option.some.inj hq]
  exact ⟨_, rfl, (rfl : (gx 31) = rho gx gm 31)⟩
set_option maxRecDepth 100000 in
theorem fb_32 {gx gm : Nat → Nat} {ax am : Nat → ClassId} : ∀ q, (toW (rho gx gm) (clA ax) ph0)[32]? = some q → ∃ q', (wX gx ax ++ wM gm am)[32]? = some q' ∧ q'.1 = q.1 := fun q hq => by
  rw [toW_at sh_32] at hq
  rw [← Option.some.inj hq]
  exact ⟨_, rfl, (rfl : (gx 32) = rho gx gm 32)⟩
set_option maxRecDepth 100000 in
theorem fb_33 {gx gm : Nat → Nat} {ax am : Nat → ClassId} : ∀ q, (toW (rho gx gm) (clA ax) ph0)[33]? = some q → ∃ q', (wX gx ax ++ wM gm am)[33]? = some q' ∧ q'.1 = q.1 := fun q hq => by
  rw [toW_at sh_33] at hq
  rw [← Option.some.inj hq]
  exact ⟨_, rfl, (rfl : (gx 33) = rho gx gm 33)⟩
set_option maxRecDepth 100000 in
theorem fb_34 {gx gm : Nat → Nat} {ax am : Nat → ClassId} : ∀ q, (toW (rho gx gm) (clA ax) ph0)[34]? = some q → ∃ q', (wX gx ax ++ wM gm am)[34]? = some q' ∧ q'.1 = q.1 := fun q hq => by
  rw [toW_at sh_34] at hq
  rw [← Option.some.inj hq]
  exact ⟨_, rfl, (rfl : (gx 34) = rho gx gm 34)⟩
set_option maxRecDepth 100000 in
theorem fb_35 {gx gm : Nat → Nat} {ax am : Nat → ClassId} : ∀ q, (toW (rho gx gm) (clA ax) ph0)[35]? = some q → ∃ q', (wX gx ax ++ wM gm am)[35]? = some q' ∧ q'.1 = q.1 := fun q hq => by
  rw [toW_at sh_35] at hq
  rw [← Option.some.inj hq]
  exact ⟨_, rfl, (rfl : (gx 35) = rho gx gm 35)⟩
set_option maxRecDepth 100000 in
theorem fb_36 {gx gm : Nat → Nat} {ax am : Nat → ClassId} : ∀ q, (toW (rho gx gm) (clA ax) ph0)[36]? = some q → ∃ q', (wX gx ax ++ wM gm am)[36]? = some q' ∧ q'.1 = q.1 := fun q hq => by
  rw [toW_at sh_36] at hq
  rw [← Option.some.inj hq]
  exact ⟨_, rfl, (rfl : (gx 36) = rho gx gm 36)⟩
set_option maxRecDepth 100000 in
theorem fb_37 {gx gm : Nat → Nat} {ax am : Nat → ClassId} : ∀ q, (toW (rho gx gm) (clA ax) ph0)[37]? = some q → ∃ q', (wX gx ax ++ wM gm am)[37]? = some q' ∧ q'.1 = q.1 := fun q hq => by
  rw [toW_at sh_37] at hq
  rw [← Option.some.inj hq]
  exact ⟨_, rfl, (rfl : (gx 37) = rho gx gm 37)⟩
set_option maxRecDepth 100000 in
theorem fb_38 {gx gm : Nat → Nat} {ax am : Nat → ClassId} : ∀ q, (toW (rho gx gm) (clA ax) ph0)[38]? = some q → ∃ q', (wX gx ax ++ wM gm am)[38]? = some q' ∧ q'.1 = q.1 := fun q hq => by
  rw [toW_at sh_38] at hq
  rw [← Option.some.inj hq]
  exact ⟨_, rfl, (rfl : (gx 38) = rho gx gm 38)⟩
set_option maxRecDepth 100000 in
theorem fb_39 {gx gm : Nat → Nat} {ax am : Nat → ClassId} : ∀ q, (toW (rho gx gm) (clA ax) ph0)[39]? = some q → ∃ q', (wX gx ax ++ wM gm am)[39]? = some q' ∧ q'.1 = q.1 := fun q hq => by
  rw [toW_at sh_39] at hq
  rw [← Option.some.inj hq]
  exact ⟨_, rfl, (rfl : (gx 39) = rho gx gm 39)⟩
set_option maxRecDepth 100000 in
theorem fb_40 {gx gm : Nat → Nat} {ax am : Nat → ClassId} : ∀ q, (toW (rho gx gm) (clA ax) ph0)[40]? = some q → ∃ q', (wX gx ax ++ wM gm am)[40]? = some q' ∧ q'.1 = q.1 := fun q hq => by
  rw [toW_at sh_40] at hq
  rw [← Option.some.inj hq]
  exact ⟨_, rfl, (rfl : (gx 40) = rho gx gm 40)⟩
set_option maxRecDepth 100000 in
theorem fb_41 {gx gm : Nat → Nat} {ax am : Nat → ClassId} : ∀ q, (toW (rho gx gm) (clA ax) ph0)[41]? = some q → ∃ q', (wX gx ax ++ wM gm am)[41]? = some q' ∧ q'.1 = q.1 := fun q hq => by
  rw [toW_at sh_41] at hq
  rw [← Option.some.inj hq]
  exact ⟨_, rfl, (rfl : (gx 41) = rho gx gm 41)⟩
set_option maxRecDepth 100000 in
theorem fb_42 {gx gm : Nat → Nat} {ax am : Nat → ClassId} : ∀ q, (toW (rho gx gm) (clA ax) ph0)[42]? = some q → ∃ q', (wX gx ax ++ wM gm am)[42]? = some q' ∧ q'.1 = q.1 := fun q hq => by
  rw [toW_at sh_42] at hq
  rw [← Option.some.inj hq]
  exact ⟨_, rfl, (rfl : (gx 42) = rho gx gm 42)⟩
set_option maxRecDepth 100000 in
theorem fb_43 {gx gm : Nat → Nat} {ax am : Nat → ClassId} : ∀ q, (toW (rho gx gm) (clA ax) ph0)[43]? = some q → ∃ q', (wX gx ax ++ wM gm am)[43]? = some q' ∧ q'.1 = q.1 := fun q hq => by
  rw [toW_at sh_43] at hq
  rw [← Option.some.inj hq]
  exact ⟨_, rfl, (rfl : (gx 43) = rho gx gm 43)⟩
set_option maxRecDepth 100000 in
theorem fb_44 {gx gm : Nat → Nat} {ax am : Nat → ClassId} : ∀ q, (toW (rho gx gm) (clA ax) ph0)[44]? = some q → ∃ q', (wX gx ax ++ wM gm am)[44]? = some q' ∧ q'.1 = q.1 := fun q hq => by
  rw [toW_at sh_44] at hq
  rw [← Option.some.inj hq]
  exact ⟨_, rfl, (rfl : (gx 44) = rho gx gm 44)⟩
set_option maxRecDepth 100000 in
theorem fb_45 {gx gm : Nat → Nat} {ax am : Nat → ClassId} : ∀ q, (toW (rho gx gm) (clA ax) ph0)[45]? = some q → ∃ q', (wX gx ax ++ wM gm am)[45]? = some q' ∧ q'.1 = q.1 := fun q hq => by
  rw [toW_at sh_45] at hq
  rw [← Option.some.inj hq]
  exact ⟨_, rfl, (rfl : (gx 45) = rho gx gm 45)⟩
set_option maxRecDepth 100000 in
theorem fb_46 {gx gm : Nat → Nat} {ax am : Nat → ClassId} : ∀ q, (toW (rho gx gm) (clA ax) ph0)[46]? = some q → ∃ q', (wX gx ax ++ wM gm am)[46]? = some q' ∧ q'.1 = q.1 := fun q hq => by
  rw [toW_at sh_46] at hq
  rw [← Option.some.inj hq]
  exact ⟨_, rfl, (rfl : (gx 46) = rho gx gm 46)⟩
set_option maxRecDepth 100000 in
theorem fb_47 {gx gm : Nat → Nat} {ax am : Nat → ClassId} : ∀ q, (toW (rho gx gm) (clA ax) ph0)[47]? = some q → ∃ q', (wX gx ax ++ wM gm am)[47]? = some q' ∧ q'.1 = q.1 := fun q hq => by
  rw [toW_at sh_47] at hq
  rw [← Option.some.inj hq]
  exact ⟨_, rfl, (rfl : (gx 47) = rho gx gm 47)⟩
set_option maxRecDepth 100000 in
theorem fb_48 {gx gm : Nat → Nat} {ax am : Nat → ClassId} : ∀ q, (toW (rho gx gm) (clA ax) ph0)[48]? = some q → ∃ q', (wX gx ax ++ wM gm am)[48]? = some q' ∧ q'.1 = q.1 := fun q hq => by
  rw [toW_at sh_48] at hq
  rw [← Option.some.inj hq]
  exact ⟨_, rfl, (rfl : (gx 48) = rho gx gm 48)⟩
set_option maxRecDepth 100000 in
theorem fb_49 {gx gm : Nat → Nat} {ax am : Nat → ClassId} : ∀ q, (toW (rho gx gm) (clA ax) ph0)[49]? = some q → ∃ q', (wX gx ax ++ wM gm am)[49]? = some q' ∧ q'.1 = q.1 := fun q hq => by
  rw [toW_at sh_49] at hq
  rw [← Option.some.inj hq]
  exact ⟨_, rfl, (rfl : (gx 49) = rho gx gm 49)⟩
set_option maxRecDepth 100000 in
theorem fb_50 {gx gm : Nat → Nat} {ax am : Nat → ClassId} : ∀ q, (toW (rho gx gm) (clA ax) ph0)[50]? = some q → ∃ q', (wX gx ax ++ wM gm am)[50]? = some q' ∧ q'.1 = q.1 := fun q hq => by
  rw [toW_at sh_50] at hq
  rw [← Option.some.inj hq]
  exact ⟨_, rfl, (rfl : (gx 50) = rho gx gm 50)⟩
set_option maxRecDepth 100000 in
theorem fb_51 {gx gm : Nat → Nat} {ax am : Nat → ClassId} : ∀ q, (toW (rho gx gm) (clA ax) ph0)[51]? = some q → ∃ q', (wX gx ax ++ wM gm am)[51]? = some q' ∧ q'.1 = q.1 := fun q hq => by
  rw [toW_at sh_51] at hq
  rw [← Option.some.inj hq]
  exact ⟨_, rfl, (rfl : (gx 51) = rho gx gm 51)⟩
set_option maxRecDepth 100000 in
theorem fb_52 {gx gm : Nat → Nat} {ax am : Nat → ClassId} : ∀ q, (toW (rho gx gm) (clA ax) ph0)[52]? = some q → ∃ q', (wX gx ax ++ wM gm am)[52]? = some q' ∧ q'.1 = q.1 := fun q hq => by
  rw [toW_at sh_52] at hq
  rw [← Option.some.inj hq]
  exact ⟨_, rfl, (rfl : (gx 52) = rho gx gm 52)⟩
set_option maxRecDepth 100000 in
theorem fb_53 {gx gm : Nat → Nat} {ax am : Nat → ClassId} : ∀ q, (toW (rho gx gm) (clA ax) ph0)[53]? = some q → ∃ q', (wX gx ax ++ wM gm am)[53]? = some q' ∧ q'.1 = q.1 := fun q hq => by
  rw [toW_at sh_53] at hq
  rw [← Option.some.inj hq]
  exact ⟨_, rfl, (rfl : (gx 53) = rho gx gm 53)⟩
set_option maxRecDepth 100000 in
theorem fb_54 {gx gm : Nat → Nat} {ax am : Nat → ClassId} : ∀ q, (toW (rho gx gm) (clA ax) ph0)[54]? = some q → ∃ q', (wX gx ax ++ wM gm am)[54]? = some q' ∧ q'.1 = q.1 := fun q hq => by
  rw [toW_at sh_54] at hq
  rw [← Option.some.inj hq]
  exact ⟨_, rfl, (rfl : (gx 54) = rho gx gm 54)⟩
set_option maxRecDepth 100000 in
theorem fb_55 {gx gm : Nat → Nat} {ax am : Nat → ClassId} : ∀ q, (toW (rho gx gm) (clA ax) ph0)[55]? = some q → ∃ q', (wX gx ax ++ wM gm am)[55]? = some q' ∧ q'.1 = q.1 := fun q hq => by
  rw [toW_at sh_55] at hq
  rw [← Option.some.inj hq]
  exact ⟨_, rfl, (rfl : (gx 55) = rho gx gm 55)⟩
set_option maxRecDepth 100000 in
theorem fb_56 {gx gm : Nat → Nat} {ax am : Nat → ClassId} : ∀ q, (toW (rho gx gm) (clA ax) ph0)[56]? = some q → ∃ q', (wX gx ax ++ wM gm am)[56]? = some q' ∧ q'.1 = q.1 := fun q hq => by
  rw [toW_at sh_56] at hq
  rw [← Option.some.inj hq]
  exact ⟨_, rfl, (rfl : (gx 56) = rho gx gm 56)⟩
set_option maxRecDepth 100000 in
theorem fb_57 {gx gm : Nat → Nat} {ax am : Nat → ClassId} : ∀ q, (toW (rho gx gm) (clA ax) ph0)[57]? = some q → ∃ q', (wX gx ax ++ wM gm am)[57]? = some q' ∧ q'.1 = q.1 := fun q hq => by
  rw [toW_at sh_57] at hq
  rw [← Option.some.inj hq]
  exact ⟨_, rfl, (rfl : (gx 57) = rho gx gm 57)⟩
set_option maxRecDepth 100000 in
theorem fb_58 {gx gm : Nat → Nat} {ax am : Nat → ClassId} : ∀ q, (toW (rho gx gm) (clA ax) ph0)[58]? = some q → ∃ q', (wX gx ax ++ wM gm am)[58]? = some q' ∧ q'.1 = q.1 := fun q hq => by
  rw [toW_at sh_58] at hq
  rw [← Option.some.inj hq]
  exact ⟨_, rfl, (rfl : (gx 58) = rho gx gm 58)⟩
set_option maxRecDepth 100000 in
theorem fb_59 {gx gm : Nat → Nat} {ax am : Nat → ClassId} : ∀ q, (toW (rho gx gm) (clA ax) ph0)[59]? = some q → ∃ q', (wX gx ax ++ wM gm am)[59]? = some q' ∧ q'.1 = q.1 := fun q hq => by
  rw [toW_at sh_59] at hq
  rw [← Option.some.inj hq]
  exact ⟨_, rfl, (rfl : (gx 59) = rho gx gm 59)⟩
set_option maxRecDepth 100000 in
theorem fb_60 {gx gm : Nat → Nat} {ax am : Nat → ClassId} : ∀ q, (toW (rho gx gm) (clA ax) ph0)[60]? = some q → ∃ q', (wX gx ax ++ wM gm am)[60]? = some q' ∧ q'.1 = q.1 := fun q hq => by
  rw [toW_at sh_60] at hq
  rw [← Option.some.inj hq]
  exact ⟨_, rfl, (rfl : (gx 60) = rho gx gm 60)⟩
set_option maxRecDepth 100000 in
theorem fb_61 {gx gm : Nat → Nat} {ax am : Nat → ClassId} : ∀ q, (toW (rho gx gm) (clA ax) ph0)[61]? = some q → ∃ q', (wX gx ax ++ wM gm am)[61]? = some q' ∧ q'.1 = q.1 := fun q hq => by
  rw [toW_at sh_61] at hq
  rw [← Option.some.inj hq]
  exact ⟨_, rfl, (rfl : (gx 61) = rho gx gm 61)⟩
set_option maxRecDepth 100000 in
theorem fb_62 {gx gm : Nat → Nat} {ax am : Nat → ClassId} : ∀ q, (toW (rho gx gm) (clA ax) ph0)[62]? = some q → ∃ q', (wX gx ax ++ wM gm am)[62]? = some q' ∧ q'.1 = q.1 := fun q hq => by
  rw [toW_at sh_62] at hq
  rw [← Option.some.inj hq]
  exact ⟨_, rfl, (rfl : (gx 62) = rho gx gm 62)⟩
set_option maxRecDepth 100000 in
theorem fb_63 {gx gm : Nat → Nat} {ax am : Nat → ClassId} : ∀ q, (toW (rho gx gm) (clA ax) ph0)[63]? = some q → ∃ q', (wX gx ax ++ wM gm am)[63]? = some q' ∧ q'.1 = q.1 := fun q hq => by
  rw [toW_at sh_63] at hq
  rw [← Option.some.inj hq]
  exact ⟨_, rfl, (rfl : (gx 63) = rho gx gm 63)⟩
set_option maxRecDepth 100000 in
theorem fb_64 {gx gm : Nat → Nat} {ax am : Nat → ClassId} : ∀ q, (toW (rho gx gm) (clA ax) ph0)[64]? = some q → ∃ q', (wX gx ax ++ wM gm am)[64]? = some q' ∧ q'.1 = q.1 := fun q hq => by
  rw [toW_at sh_64] at hq
  rw [← Option.some.inj hq]
  exact ⟨_, rfl, (rfl : (gx 64) = rho gx gm 64)⟩
set_option maxRecDepth 100000 in
theorem fb_65 {gx gm : Nat → Nat} {ax am : Nat → ClassId} : ∀ q, (toW (rho gx gm) (clA ax) ph0)[65]? = some q → ∃ q', (wX gx ax ++ wM gm am)[65]? = some q' ∧ q'.1 = q.1 := fun q hq => by
  rw [toW_at sh_65] at hq
  rw [← Option.some.inj hq]
  exact ⟨_, rfl, (rfl : (gx 65) = rho gx gm 65)⟩
set_option maxRecDepth 100000 in
theorem fb_66 {gx gm : Nat → Nat} {ax am : Nat → ClassId} : ∀ q, (toW (rho gx gm) (clA ax) ph0)[66]? = some q → ∃ q', (wX gx ax ++ wM gm am)[66]? = some q' ∧ q'.1 = q.1 := fun q hq => by
  rw [toW_at sh_66] at hq
  rw [← Option.some.inj hq]
  exact ⟨_, rfl, (rfl : (gx 66) = rho gx gm 66)⟩
set_option maxRecDepth 100000 in
theorem fb_67 {gx gm : Nat → Nat} {ax am : Nat → ClassId} : ∀ q, (toW (rho gx gm) (clA ax) ph0)[67]? = some q → ∃ q', (wX gx ax ++ wM gm am)[67]? = some q' ∧ q'.1 = q.1 := fun q hq => by
  rw [toW_at sh_67] at hq
  rw [← Option.some.inj hq]
  exact ⟨_, rfl, (rfl : (gx 67) = rho gx gm 67)⟩
set_option maxRecDepth 100000 in
theorem fb_68 {gx gm : Nat → Nat} {ax am : Nat → ClassId} : ∀ q, (toW (rho gx gm) (clA ax) ph0)[68]? = some q → ∃ q', (wX gx ax ++ wM gm am)[68]? = some q' ∧ q'.1 = q.1 := fun q hq => by
  rw [toW_at sh_68] at hq
  rw [← Option.some.inj hq]
  exact ⟨_, rfl, (rfl : (gx 68) = rho gx gm 68)⟩
set_option maxRecDepth 100000 in
theorem fb_69 {gx gm : Nat → Nat} {ax am : Nat → ClassId} : ∀ q, (toW (rho gx gm) (clA ax) ph0)[69]? = some q → ∃ q', (wX gx ax ++ wM gm am)[69]? = some q' ∧ q'.1 = q.1 := fun q hq => by
  rw [toW_at sh_69] at hq
  rw [← Option.some.inj hq]
  exact ⟨_, rfl, (rfl : (gx 69) = rho gx gm 69)⟩
set_option maxRecDepth 100000 in
theorem fb_70 {gx gm : Nat → Nat} {ax am : Nat → ClassId} : ∀ q, (toW (rho gx gm) (clA ax) ph0)[70]? = some q → ∃ q', (wX gx ax ++ wM gm am)[70]? = some q' ∧ q'.1 = q.1 := fun q hq => by
  rw [toW_at sh_70] at hq
  rw [← Option.some.inj hq]
  exact ⟨_, rfl, (rfl : (gx 70) = rho gx gm 70)⟩
set_option maxRecDepth 100000 in
theorem fb_71 {gx gm : Nat → Nat} {ax am : Nat → ClassId} : ∀ q, (toW (rho gx gm) (clA ax) ph0)[71]? = some q → ∃ q', (wX gx ax ++ wM gm am)[71]? = some q' ∧ q'.1 = q.1 := fun q hq => by
  rw [toW_at sh_71] at hq
  rw [← Option.some.inj hq]
  exact ⟨_, rfl, (rfl : (gx 71) = rho gx gm 71)⟩
set_option maxRecDepth 100000 in
theorem fb_72 {gx gm : Nat → Nat} {ax am : Nat → ClassId} : ∀ q, (toW (rho gx gm) (clA ax) ph0)[72]? = some q → ∃ q', (wX gx ax ++ wM gm am)[72]? = some q' ∧ q'.1 = q.1 := fun q hq => by
  rw [toW_at sh_72] at hq
  rw [← Option.some.inj hq]
  exact ⟨_, rfl, (rfl : (gx 72) = rho gx gm 72)⟩
set_option maxRecDepth 100000 in
theorem fb_73 {gx gm : Nat → Nat} {ax am : Nat → ClassId} : ∀ q, (toW (rho gx gm) (clA ax) ph0)[73]? = some q → ∃ q', (wX gx ax ++ wM gm am)[73]? = some q' ∧ q'.1 = q.1 := fun q hq => by
  rw [toW_at sh_73] at hq
  rw [← Option.some.inj hq]
  exact ⟨_, rfl, (rfl : (gx 73) = rho gx gm 73)⟩
set_option maxRecDepth 100000 in
theorem fb_74 {gx gm : Nat → Nat} {ax am : Nat → ClassId} : ∀ q, (toW (rho gx gm) (clA ax) ph0)[74]? = some q → ∃ q', (wX gx ax ++ wM gm am)[74]? = some q' ∧ q'.1 = q.1 := fun q hq => by
  rw [toW_at sh_74] at hq
  rw [← Option.some.inj hq]
  exact ⟨_, rfl, (rfl : (gx 74) = rho gx gm 74)⟩
set_option maxRecDepth 100000 in
theorem fb_75 {gx gm : Nat → Nat} {ax am : Nat → ClassId} : ∀ q, (toW (rho gx gm) (clA ax) ph0)[75]? = some q → ∃ q', (wX gx ax ++ wM gm am)[75]? = some q' ∧ q'.1 = q.1 := fun q hq => by
  rw [toW_at sh_75] at hq
  rw [← Option.some.inj hq]
  exact ⟨_, rfl, (rfl : (gx 75) = rho gx gm 75)⟩
set_option maxRecDepth 100000 in
theorem fb_76 {gx gm : Nat → Nat} {ax am : Nat → ClassId} : ∀ q, (toW (rho gx gm) (clA ax) ph0)[76]? = some q → ∃ q', (wX gx ax ++ wM gm am)[76]? = some q' ∧ q'.1 = q.1 := fun q hq => by
  rw [toW_at sh_76] at hq
  rw [← Option.some.inj hq]
  exact ⟨_, rfl, (rfl : (gx 76) = rho gx gm 76)⟩
set_option maxRecDepth 100000 in
theorem fb_77 {gx gm : Nat → Nat} {ax am : Nat → ClassId} : ∀ q, (toW (rho gx gm) (clA ax) ph0)[77]? = some q → ∃ q', (wX gx ax ++ wM gm am)[77]? = some q' ∧ q'.1 = q.1 := fun q hq => by
  rw [toW_at sh_77] at hq
  rw [← Option.some.inj hq]
  exact ⟨_, rfl, (rfl : (gx 77) = rho gx gm 77)⟩
set_option maxRecDepth 100000 in
theorem fb_78 {gx gm : Nat → Nat} {ax am : Nat → ClassId} : ∀ q, (toW (rho gx gm) (clA ax) ph0)[78]? = some q → ∃ q', (wX gx ax ++ wM gm am)[78]? = some q' ∧ q'.1 = q.1 := fun q hq => by
  rw [toW_at sh_78] at hq
  rw [← Option.some.inj hq]
  exact ⟨_, rfl, (rfl : (gx 78) = rho gx gm 78)⟩
set_option maxRecDepth 100000 in
theorem fb_79 {gx gm : Nat → Nat} {ax am : Nat → ClassId} : ∀ q, (toW (rho gx gm) (clA ax) ph0)[79]? = some q → ∃ q', (wX gx ax ++ wM gm am)[79]? = some q' ∧ q'.1 = q.1 := fun q hq => by
  rw [toW_at sh_79] at hq
  rw [← Option.some.inj hq]
  exact ⟨_, rfl, (rfl : (gx 79) = rho gx gm 79)⟩
set_option maxRecDepth 100000 in
theorem fb_80 {gx gm : Nat → Nat} {ax am : Nat → ClassId} : ∀ q, (toW (rho gx gm) (clA ax) ph0)[80]? = some q → ∃ q', (wX gx ax ++ wM gm am)[80]? = some q' ∧ q'.1 = q.1 := fun q hq => by
  rw [toW_at sh_80] at hq
  rw [← Option.some.inj hq]
  exact ⟨_, rfl, (rfl : (gx 80) = rho gx gm 80)⟩
set_option maxRecDepth 100000 in
theorem fb_81 {gx gm : Nat → Nat} {ax am : Nat → ClassId} : ∀ q, (toW (rho gx gm) (clA ax) ph0)[81]? = some q → ∃ q', (wX gx ax ++ wM gm am)[81]? = some q' ∧ q'.1 = q.1 := fun q hq => by
  rw [toW_at sh_81] at hq
  rw [← Option.some.inj hq]
  exact ⟨_, rfl, (rfl : (gx 81) = rho gx gm 81)⟩
set_option maxRecDepth 100000 in
theorem fb_82 {gx gm : Nat → Nat} {ax am : Nat → ClassId} : ∀ q, (toW (rho gx gm) (clA ax) ph0)[82]? = some q → ∃ q', (wX gx ax ++ wM gm am)[82]? = some q' ∧ q'.1 = q.1 := fun q hq => by
  rw [toW_at sh_82] at hq
  rw [← Option.some.inj hq]
  exact ⟨_, rfl, (rfl : (gx 82) = rho gx gm 82)⟩
set_option maxRecDepth 100000 in
theorem fb_83 {gx gm : Nat → Nat} {ax am : Nat → ClassId} : ∀ q, (toW (rho gx gm) (clA ax) ph0)[83]? = some q → ∃ q', (wX gx ax ++ wM gm am)[83]? = some q' ∧ q'.1 = q.1 := fun q hq => by
  rw [toW_at sh_83] at hq
  rw [← Option.some.inj hq]
  exact ⟨_, rfl, (rfl : (gx 83) = rho gx gm 83)⟩
set_option maxRecDepth 100000 in
theorem fb_84 {gx gm : Nat → Nat} {ax am : Nat → ClassId} : ∀ q, (toW (rho gx gm) (clA ax) ph0)[84]? = some q → ∃ q', (wX gx ax ++ wM gm am)[84]? = some q' ∧ q'.1 = q.1 := fun q hq => by
  rw [toW_at sh_84] at hq
  rw [← Option.some.inj hq]
  exact ⟨_, rfl, (rfl : (gx 84) = rho gx gm 84)⟩
set_option maxRecDepth 100000 in
theorem fb_85 {gx gm : Nat → Nat} {ax am : Nat → ClassId} : ∀ q, (toW (rho gx gm) (clA ax) ph0)[85]? = some q → ∃ q', (wX gx ax ++ wM gm am)[85]? = some q' ∧ q'.1 = q.1 := fun q hq => by
  rw [toW_at sh_85] at hq
  rw [← Option.some.inj hq]
  exact ⟨_, rfl, (rfl : (gx 85) = rho gx gm 85)⟩
set_option maxRecDepth 100000 in
theorem fb_86 {gx gm : Nat → Nat} {ax am : Nat → ClassId} : ∀ q, (toW (rho gx gm) (clA ax) ph0)[86]? = some q → ∃ q', (wX gx ax ++ wM gm am)[86]? = some q' ∧ q'.1 = q.1 := fun q hq => by
  rw [toW_at sh_86] at hq
  rw [← Option.some.inj hq]
  exact ⟨_, rfl, (rfl : (gx 86) = rho gx gm 86)⟩
set_option maxRecDepth 100000 in
theorem fb_87 {gx gm : Nat → Nat} {ax am : Nat → ClassId} : ∀ q, (toW (rho gx gm) (clA ax) ph0)[87]? = some q → ∃ q', (wX gx ax ++ wM gm am)[87]? = some q' ∧ q'.1 = q.1 := fun q hq => by
  rw [toW_at sh_87] at hq
  rw [← Option.some.inj hq]
  exact ⟨_, rfl, (rfl : (gx 87) = rho gx gm 87)⟩
set_option maxRecDepth 100000 in
theorem fb_88 {gx gm : Nat → Nat} {ax am : Nat → ClassId} : ∀ q, (toW (rho gx gm) (clA ax) ph0)[88]? = some q → ∃ q', (wX gx ax ++ wM gm am)[88]? = some q' ∧ q'.1 = q.1 := fun q hq => by
  rw [toW_at sh_88] at hq
  rw [← Option.some.inj hq]
  exact ⟨_, rfl, (rfl : (gx 88) = rho gx gm 88)⟩
set_option maxRecDepth 100000 in
theorem fb_89 {gx gm : Nat → Nat} {ax am : Nat → ClassId} : ∀ q, (toW (rho gx gm) (clA ax) ph0)[89]? = some q → ∃ q', (wX gx ax ++ wM gm am)[89]? = some q' ∧ q'.1 = q.1 := fun q hq => by
  rw [toW_at sh_89] at hq
  rw [← Option.some.inj hq]
  exact ⟨_, rfl, (rfl : (gx 89) = rho gx gm 89)⟩
set_option maxRecDepth 100000 in
theorem fb_90 {gx gm : Nat → Nat} {ax am : Nat → ClassId} : ∀ q, (toW (rho gx gm) (clA ax) ph0)[90]? = some q → ∃ q', (wX gx ax ++ wM gm am)[90]? = some q' ∧ q'.1 = q.1 := fun q hq => by
  rw [toW_at sh_90] at hq
  rw [← Option.some.inj hq]
  exact ⟨_, rfl, (rfl : (gx 90) = rho gx gm 90)⟩
set_option maxRecDepth 100000 in
theorem fb_91 {gx gm : Nat → Nat} {ax am : Nat → ClassId} : ∀ q, (toW (rho gx gm) (clA ax) ph0)[91]? = some q → ∃ q', (wX gx ax ++ wM gm am)[91]? = some q' ∧ q'.1 = q.1 := fun q hq => by
  rw [toW_at sh_91] at hq
  rw [← Option.some.inj hq]
  exact ⟨_, rfl, (rfl : (gx 91) = rho gx gm 91)⟩
set_option maxRecDepth 100000 in
theorem fb_92 {gx gm : Nat → Nat} {ax am : Nat → ClassId} : ∀ q, (toW (rho gx gm) (clA ax) ph0)[92]? = some q → ∃ q', (wX gx ax ++ wM gm am)[92]? = some q' ∧ q'.1 = q.1 := fun q hq => by
  rw [toW_at sh_92] at hq
  rw [← Option.some.inj hq]
  exact ⟨_, rfl, (rfl : (gx 92) = rho gx gm 92)⟩
set_option maxRecDepth 100000 in
theorem fb_93 {gx gm : Nat → Nat} {ax am : Nat → ClassId} : ∀ q, (toW (rho gx gm) (clA ax) ph0)[93]? = some q → ∃ q', (wX gx ax ++ wM gm am)[93]? = some q' ∧ q'.1 = q.1 := fun q hq => by
  rw [toW_at sh_93] at hq
  rw [← Option.some.inj hq]
  exact ⟨_, rfl, (rfl : (gx 93) = rho gx gm 93)⟩
set_option maxRecDepth 100000 in
theorem fb_94 {gx gm : Nat → Nat} {ax am : Nat → ClassId} : ∀ q, (toW (rho gx gm) (clA ax) ph0)[94]? = some q → ∃ q', (wX gx ax ++ wM gm am)[94]? = some q' ∧ q'.1 = q.1 := fun q hq => by
  rw [toW_at sh_94] at hq
  rw [← Option.some.inj hq]
  exact ⟨_, rfl, (rfl : (gx 94) = rho gx gm 94)⟩
set_option maxRecDepth 100000 in
theorem fb_95 {gx gm : Nat → Nat} {ax am : Nat → ClassId} : ∀ q, (toW (rho gx gm) (clA ax) ph0)[95]? = some q → ∃ q', (wX gx ax ++ wM gm am)[95]? = some q' ∧ q'.1 = q.1 := fun q hq => by
  rw [toW_at sh_95] at hq
  rw [← Option.some.inj hq]
  exact ⟨_, rfl, (rfl : (gx 95) = rho gx gm 95)⟩
set_option maxRecDepth 100000 in
theorem fb_96 {gx gm : Nat → Nat} {ax am : Nat → ClassId} : ∀ q, (toW (rho gx gm) (clA ax) ph0)[96]? = some q → ∃ q', (wX gx ax ++ wM gm am)[96]? = some q' ∧ q'.1 = q.1 := fun q hq => by
  rw [toW_at sh_96] at hq
  rw [← Option.some.inj hq]
  exact ⟨_, rfl, (rfl : (gm 0) = rho gx gm 96)⟩
set_option maxRecDepth 100000 in
theorem fb_97 {gx gm : Nat → Nat} {ax am : Nat → ClassId} : ∀ q, (toW (rho gx gm) (clA ax) ph0)[97]? = some q → ∃ q', (wX gx ax ++ wM gm am)[97]? = some q' ∧ q'.1 = q.1 := fun q hq => by
  rw [toW_at sh_97] at hq
  rw [← Option.some.inj hq]
  exact ⟨_, rfl, (rfl : (gm 1) = rho gx gm 97)⟩
set_option maxRecDepth 100000 in
theorem fb_98 {gx gm : Nat → Nat} {ax am : Nat → ClassId} : ∀ q, (toW (rho gx gm) (clA ax) ph0)[98]? = some q → ∃ q', (wX gx ax ++ wM gm am)[98]? = some q' ∧ q'.1 = q.1 := fun q hq => by
  rw [toW_at sh_98] at hq
  rw [← Option.some.inj hq]
  exact ⟨_, rfl, (rfl : (gm 2) = rho gx gm 98)⟩
set_option maxRecDepth 100000 in
theorem fb_99 {gx gm : Nat → Nat} {ax am : Nat → ClassId} : ∀ q, (toW (rho gx gm) (clA ax) ph0)[99]? = some q → ∃ q', (wX gx ax ++ wM gm am)[99]? = some q' ∧ q'.1 = q.1 := fun q hq => by
  rw [toW_at sh_99] at hq
  rw [← Option.some.inj hq]
  exact ⟨_, rfl, (rfl : (gm 3) = rho gx gm 99)⟩
set_option maxRecDepth 100000 in
theorem fb_100 {gx gm : Nat → Nat} {ax am : Nat → ClassId} : ∀ q, (toW (rho gx gm) (clA ax) ph0)[100]? = some q → ∃ q', (wX gx ax ++ wM gm am)[100]? = some q' ∧ q'.1 = q.1 := fun q hq => by
  rw [toW_at sh_100] at hq
  rw [← Option.some.inj hq]
  exact ⟨_, rfl, (rfl : (gm 4) = rho gx gm 100)⟩
set_option maxRecDepth 100000 in
theorem fb_101 {gx gm : Nat → Nat} {ax am : Nat → ClassId} : ∀ q, (toW (rho gx gm) (clA ax) ph0)[101]? = some q → ∃ q', (wX gx ax ++ wM gm am)[101]? = some q' ∧ q'.1 = q.1 := fun q hq => by
  rw [toW_at sh_101] at hq
  rw [← Option.some.inj hq]
  exact ⟨_, rfl, (rfl : (gm 6) = rho gx gm 101)⟩
set_option maxRecDepth 100000 in
theorem fb_102 {gx gm : Nat → Nat} {ax am : Nat → ClassId} : ∀ q, (toW (rho gx gm) (clA ax) ph0)[102]? = some q → ∃ q', (wX gx ax ++ wM gm am)[102]? = some q' ∧ q'.1 = q.1 := fun q hq => by
  rw [toW_at sh_102] at hq
  rw [← Option.some.inj hq]
  exact ⟨_, rfl, (rfl : (gm 14) = rho gx gm 102)⟩
set_option maxRecDepth 100000 in
theorem fb_103 {gx gm : Nat → Nat} {ax am : Nat → ClassId} : ∀ q, (toW (rho gx gm) (clA ax) ph0)[103]? = some q → ∃ q', (wX gx ax ++ wM gm am)[103]? = some q' ∧ q'.1 = q.1 := fun q hq => by
  rw [toW_at sh_103] at hq
  rw [← Option.some.inj hq]
  exact ⟨_, rfl, (rfl : (gm 15) = rho gx gm 103)⟩
set_option maxRecDepth 100000 in
theorem fb_104 {gx gm : Nat → Nat} {ax am : Nat → ClassId} : ∀ q, (toW (rho gx gm) (clA ax) ph0)[104]? = some q → ∃ q', (wX gx ax ++ wM gm am)[104]? = some q' ∧ q'.1 = q.1 := fun q hq => by
  rw [toW_at sh_104] at hq
  rw [← Option.some.inj hq]
  exact ⟨_, rfl, (rfl : (gm 16) = rho gx gm 104)⟩
set_option maxRecDepth 100000 in
theorem fb_105 {gx gm : Nat → Nat} {ax am : Nat → ClassId} : ∀ q, (toW (rho gx gm) (clA ax) ph0)[105]? = some q → ∃ q', (wX gx ax ++ wM gm am)[105]? = some q' ∧ q'.1 = q.1 := fun q hq => by
  rw [toW_at sh_105] at hq
  rw [← Option.some.inj hq]
  exact ⟨_, rfl, (rfl : (gm 17) = rho gx gm 105)⟩
set_option maxRecDepth 100000 in
theorem fb_106 {gx gm : Nat → Nat} {ax am : Nat → ClassId} : ∀ q, (toW (rho gx gm) (clA ax) ph0)[106]? = some q → ∃ q', (wX gx ax ++ wM gm am)[106]? = some q' ∧ q'.1 = q.1 := fun q hq => by
  rw [toW_at sh_106] at hq
  rw [← Option.some.inj hq]
  exact ⟨_, rfl, (rfl : (gm 21) = rho gx gm 106)⟩
set_option maxRecDepth 100000 in
theorem fb_107 {gx gm : Nat → Nat} {ax am : Nat → ClassId} : ∀ q, (toW (rho gx gm) (clA ax) ph0)[107]? = some q → ∃ q', (wX gx ax ++ wM gm am)[107]? = some q' ∧ q'.1 = q.1 := fun q hq => by
  rw [toW_at sh_107] at hq
  rw [← Option.some.inj hq]
  exact ⟨_, rfl, (rfl : (gm 22) = rho gx gm 107)⟩
set_option maxRecDepth 100000 in
theorem fb_108 {gx gm : Nat → Nat} {ax am : Nat → ClassId} : ∀ q, (toW (rho gx gm) (clA ax) ph0)[108]? = some q → ∃ q', (wX gx ax ++ wM gm am)[108]? = some q' ∧ q'.1 = q.1 := fun q hq => by
  rw [toW_at sh_108] at hq
  rw [← Option.some.inj hq]
  exact ⟨_, rfl, (rfl : (gm 23) = rho gx gm 108)⟩
set_option maxRecDepth 100000 in
theorem fb_109 {gx gm : Nat → Nat} {ax am : Nat → ClassId} : ∀ q, (toW (rho gx gm) (clA ax) ph0)[109]? = some q → ∃ q', (wX gx ax ++ wM gm am)[109]? = some q' ∧ q'.1 = q.1 := fun q hq => by
  rw [toW_at sh_109] at hq
  rw [← Option.some.inj hq]
  exact ⟨_, rfl, (rfl : (gm 24) = rho gx gm 109)⟩
set_option maxRecDepth 100000 in
theorem fb_110 {gx gm : Nat → Nat} {ax am : Nat → ClassId} : ∀ q, (toW (rho gx gm) (clA ax) ph0)[110]? = some q → ∃ q', (wX gx ax ++ wM gm am)[110]? = some q' ∧ q'.1 = q.1 := fun q hq => by
  rw [toW_at sh_110] at hq
  rw [← Option.some.inj hq]
  exact ⟨_, rfl, (rfl : (gm 25) = rho gx gm 110)⟩
set_option maxRecDepth 100000 in
theorem fb_111 {gx gm : Nat → Nat} {ax am : Nat → ClassId} : ∀ q, (toW (rho gx gm) (clA ax) ph0)[111]? = some q → ∃ q', (wX gx ax ++ wM gm am)[111]? = some q' ∧ q'.1 = q.1 := fun q hq => by
  rw [toW_at sh_111] at hq
  rw [← Option.some.inj hq]
  exact ⟨_, rfl, (rfl : (gm 26) = rho gx gm 111)⟩
set_option maxRecDepth 100000 in
theorem fb_112 {gx gm : Nat → Nat} {ax am : Nat → ClassId} : ∀ q, (toW (rho gx gm) (clA ax) ph0)[112]? = some q → ∃ q', (wX gx ax ++ wM gm am)[112]? = some q' ∧ q'.1 = q.1 := fun q hq => by
  rw [toW_at sh_112] at hq
  rw [← Option.some.inj hq]
  exact ⟨_, rfl, (rfl : (gm 27) = rho gx gm 112)⟩
set_option maxRecDepth 100000 in
theorem fb_113 {gx gm : Nat → Nat} {ax am : Nat → ClassId} : ∀ q, (toW (rho gx gm) (clA ax) ph0)[113]? = some q → ∃ q', (wX gx ax ++ wM gm am)[113]? = some q' ∧ q'.1 = q.1 := fun q hq => by
  rw [toW_at sh_113] at hq
  rw [← Option.some.inj hq]
  exact ⟨_, rfl, (rfl : (gm 28) = rho gx gm 113)⟩
set_option maxRecDepth 100000 in
theorem fb_114 {gx gm : Nat → Nat} {ax am : Nat → ClassId} : ∀ q, (toW (rho gx gm) (clA ax) ph0)[114]? = some q → ∃ q', (wX gx ax ++ wM gm am)[114]? = some q' ∧ q'.1 = q.1 := fun q hq => by
  rw [toW_at sh_114] at hq
  rw [← Option.some.inj hq]
  exact ⟨_, rfl, (rfl : (gm 29) = rho gx gm 114)⟩
set_option maxRecDepth 100000 in
theorem fb_115 {gx gm : Nat → Nat} {ax am : Nat → ClassId} : ∀ q, (toW (rho gx gm) (clA ax) ph0)[115]? = some q → ∃ q', (wX gx ax ++ wM gm am)[115]? = some q' ∧ q'.1 = q.1 := fun q hq => by
  rw [toW_at sh_115] at hq
  rw [← Option.some.inj hq]
  exact ⟨_, rfl, (rfl : (gm 30) = rho gx gm 115)⟩
set_option maxRecDepth 100000 in
theorem fb_116 {gx gm : Nat → Nat} {ax am : Nat → ClassId} : ∀ q, (toW (rho gx gm) (clA ax) ph0)[116]? = some q → ∃ q', (wX gx ax ++ wM gm am)[116]? = some q' ∧ q'.1 = q.1 := fun q hq => by
  rw [toW_at sh_116] at hq
  rw [← Option.some.inj hq]
  exact ⟨_, rfl, (rfl : (gm 31) = rho gx gm 116)⟩
set_option maxRecDepth 100000 in
theorem fb_117 {gx gm : Nat → Nat} {ax am : Nat → ClassId} : ∀ q, (toW (rho gx gm) (clA ax) ph0)[117]? = some q → ∃ q', (wX gx ax ++ wM gm am)[117]? = some q' ∧ q'.1 = q.1 := fun q hq => by
  rw [toW_at sh_117] at hq
  rw [← Option.some.inj hq]
  exact ⟨_, rfl, (rfl : (gm 32) = rho gx gm 117)⟩
set_option maxRecDepth 100000 in
theorem fb_118 {gx gm : Nat → Nat} {ax am : Nat → ClassId} : ∀ q, (toW (rho gx gm) (clA ax) ph0)[118]? = some q → ∃ q', (wX gx ax ++ wM gm am)[118]? = some q' ∧ q'.1 = q.1 := fun q hq => by
  rw [toW_at sh_118] at hq
  rw [← Option.some.inj hq]
  exact ⟨_, rfl, (rfl : (gm 33) = rho gx gm 118)⟩
set_option maxRecDepth 100000 in
theorem fb_119 {gx gm : Nat → Nat} {ax am : Nat → ClassId} : ∀ q, (toW (rho gx gm) (clA ax) ph0)[119]? = some q → ∃ q', (wX gx ax ++ wM gm am)[119]? = some q' ∧ q'.1 = q.1 := fun q hq => by
  rw [toW_at sh_119] at hq
  rw [← Option.some.inj hq]
  exact ⟨_, rfl, (rfl : (gm 37) = rho gx gm 119)⟩
set_option maxRecDepth 100000 in
theorem fb_120 {gx gm : Nat → Nat} {ax am : Nat → ClassId} : ∀ q, (toW (rho gx gm) (clA ax) ph0)[120]? = some q → ∃ q', (wX gx ax ++ wM gm am)[120]? = some q' ∧ q'.1 = q.1 := fun q hq => by
  rw [toW_at sh_120] at hq
  rw [← Option.some.inj hq]
  exact ⟨_, rfl, (rfl : (gm 38) = rho gx gm 120)⟩
set_option maxRecDepth 100000 in
theorem fb_121 {gx gm : Nat → Nat} {ax am : Nat → ClassId} : ∀ q, (toW (rho gx gm) (clA ax) ph0)[121]? = some q → ∃ q', (wX gx ax ++ wM gm am)[121]? = some q' ∧ q'.1 = q.1 := fun q hq => by
  rw [toW_at sh_121] at hq
  rw [← Option.some.inj hq]
  exact ⟨_, rfl, (rfl : (gm 39) = rho gx gm 121)⟩
set_option maxRecDepth 100000 in
theorem fb_122 {gx gm : Nat → Nat} {ax am : Nat → ClassId} : ∀ q, (toW (rho gx gm) (clA ax) ph0)[122]? = some q → ∃ q', (wX gx ax ++ wM gm am)[122]? = some q' ∧ q'.1 = q.1 := fun q hq => by
  rw [toW_at sh_122] at hq
  rw [← Option.some.inj hq]
  exact ⟨_, rfl, (rfl : (gm 40) = rho gx gm 122)⟩
set_option maxRecDepth 100000 in
theorem fb_123 {gx gm : Nat → Nat} {ax am : Nat → ClassId} : ∀ q, (toW (rho gx gm) (clA ax) ph0)[123]? = some q → ∃ q', (wX gx ax ++ wM gm am)[123]? = some q' ∧ q'.1 = q.1 := fun q hq => by
  rw [toW_at sh_123] at hq
  rw [← Option.some.inj hq]
  exact ⟨_, rfl, (rfl : (gm 45) = rho gx gm 123)⟩
set_option maxRecDepth 100000 in
theorem fb_124 {gx gm : Nat → Nat} {ax am : Nat → ClassId} : ∀ q, (toW (rho gx gm) (clA ax) ph0)[124]? = some q → ∃ q', (wX gx ax ++ wM gm am)[124]? = some q' ∧ q'.1 = q.1 := fun q hq => by
  rw [toW_at sh_124] at hq
  rw [← Option.some.inj hq]
  exact ⟨_, rfl, (rfl : (gm 49) = rho gx gm 124)⟩
set_option maxRecDepth 100000 in
theorem fb_125 {gx gm : Nat → Nat} {ax am : Nat → ClassId} : ∀ q, (toW (rho gx gm) (clA ax) ph0)[125]? = some q → ∃ q', (wX gx ax ++ wM gm am)[125]? = some q' ∧ q'.1 = q.1 := fun q hq => by
  rw [toW_at sh_125] at hq
  rw [← Option.some.inj hq]
  exact ⟨_, rfl, (rfl : (gm 50) = rho gx gm 125)⟩
set_option maxRecDepth 100000 in
theorem fb_126 {gx gm : Nat → Nat} {ax am : Nat → ClassId} : ∀ q, (toW (rho gx gm) (clA ax) ph0)[126]? = some q → ∃ q', (wX gx ax ++ wM gm am)[126]? = some q' ∧ q'.1 = q.1 := fun q hq => by
  rw [toW_at sh_126] at hq
  rw [← Option.some.inj hq]
  exact ⟨_, rfl, (rfl : (gm 53) = rho gx gm 126)⟩
set_option maxRecDepth 100000 in
theorem fb_127 {gx gm : Nat → Nat} {ax am : Nat → ClassId} : ∀ q, (toW (rho gx gm) (clA ax) ph0)[127]? = some q → ∃ q', (wX gx ax ++ wM gm am)[127]? = some q' ∧ q'.1 = q.1 := fun q hq => by
  rw [toW_at sh_127] at hq
  rw [← Option.some.inj hq]
  exact ⟨_, rfl, (rfl : (gm 57) = rho gx gm 127)⟩
set_option maxRecDepth 100000 in
theorem fb_128 {gx gm : Nat → Nat} {ax am : Nat → ClassId} : ∀ q, (toW (rho gx gm) (clA ax) ph0)[128]? = some q → ∃ q', (wX gx ax ++ wM gm am)[128]? = some q' ∧ q'.1 = q.1 := fun q hq => by
  rw [toW_at sh_128] at hq
  rw [← Option.some.inj hq]
  exact ⟨_, rfl, (rfl : (gm 58) = rho gx gm 128)⟩
set_option maxRecDepth 100000 in
theorem fb_129 {gx gm : Nat → Nat} {ax am : Nat → ClassId} : ∀ q, (toW (rho gx gm) (clA ax) ph0)[129]? = some q → ∃ q', (wX gx ax ++ wM gm am)[129]? = some q' ∧ q'.1 = q.1 := fun q hq => by
  rw [toW_at sh_129] at hq
  rw [← Option.some.inj hq]
  exact ⟨_, rfl, (rfl : (gm 59) = rho gx gm 129)⟩
set_option maxRecDepth 100000 in
theorem fb_130 {gx gm : Nat → Nat} {ax am : Nat → ClassId} : ∀ q, (toW (rho gx gm) (clA ax) ph0)[130]? = some q → ∃ q', (wX gx ax ++ wM gm am)[130]? = some q' ∧ q'.1 = q.1 := fun q hq => by
  rw [toW_at sh_130] at hq
  rw [← Option.some.inj hq]
  exact ⟨_, rfl, (rfl : (gm 60) = rho gx gm 130)⟩
