set_option maxRecDepth 100000 in
set_option maxHeartbeats 4000000 in
theorem lc_30 {p : Program} {l : Launch} {e : Env} {s : State} {m : MethodId} {below : List Frame} {meth : Method} {c : Code} {dC : Nat → ClassId} {dI : Nat → Nat → Nat} {b L : Nat} {xs : Nat → Int32} {H : Heap} {locs : List Loc} {ls : Array Slot} {ρ : Nat → Nat} {σ : Nat → Option Nat} {a : Nat → ClassId} {h : PH} {i : Int32} (C0 : lw_At p s m meth c b L xs) (hK : va_K (dC, dI) vwCl (tysP a) s) (hM : AMB σ (fun q : Nat => s.heap.size ≤ q) s s.heap) (hI : INV h) (hJ : REL h) (hP : va_P (dC, dI) vwCl (toW ρ a h) H) (hD : va_D (fun q : Nat => s.heap.size ≤ q) (toW ρ a h)) (hS : va_S (fun q : Nat => s.heap.size ≤ q) s.heap H locs) (hl : lv_has ls 4 [(0, .ref b), (1, .ref (ρ 0)), (2, .ref (ρ 96)), (3, .int i)]) (hi : 0 ≤ i.toInt ∧ i.toInt + 6 ≤ (L : Int) ∧ L ≤ 384) (hend : ∀ (H : Heap) (locs : List Loc) (ls : Array Slot) (h : PH), INV h → REL h → va_P (dC, dI) vwCl (toW ρ a h) H → va_D (fun q : Nat => s.heap.size ≤ q) (toW ρ a h) → va_S (fun q : Nat => s.heap.size ≤ q) s.heap H locs → lv_has ls 4 [(0, .ref b), (1, .ref (ρ 0)), (2, .ref (ρ 96)), (3, .int i)] → LG p l e s m b below meth c H locs (F0 m 2146 ls [])) : LG p l e s m b below meth c H locs (F0 m 1054 ls []) := by
  obtain ⟨hx, hb, hr, hml, hown, hts, hX, hbl, hlocks, hgv⟩ := C0
  have hT : ∀ w ∈ TB, w.before #[Value.ref b] s = true := fun w h => hts w (TB_lw h)
  have hown : s.vm.findClass RL = some m.cls := hown
  have hA : ∀ q : Nat, s.heap.size ≤ q → (fun q : Nat => s.heap.size ≤ q) q := fun _ h => h
  have hbA : ¬ (fun q : Nat => s.heap.size ≤ q) b := Nat.not_le.mpr hbl
  refine lv_aload_n hx hb dL_law_1054 rfl (lv_at hl 1 rfl) ?_
  obtain ⟨r1, h1, hq, hM1⟩ := CALL_met (l := l) (dC := dC) (dI := dI) (ρ := ρ) (σ := σ) (a := a) pp_X8_lazy (Nat.le_of_ble_eq_true rfl) (k_X8_lazy h hI )
  obtain ⟨hI1, fr1, -, z1, rfl, -⟩ := hq
  refine c_L (n := 0) (v := 0) (As := []) (rest := []) ⟨hx, hb, hml, hown, hT⟩ hK hM hA hP hD hS pp_X8_lazy hM1 sh_0 mw_357 mw_358 mw_359 mw_168 (by decide +kernel) rfl ⟨Nat.le_of_ble_eq_true rfl, Nat.le_of_ble_eq_true rfl⟩ hl.1 (Nat.le_of_ble_eq_true rfl) rfl dL_law_1055 ⟨Nat.le_of_ble_eq_true rfl, Nat.le_of_ble_eq_true rfl⟩ (fun H locs hP hD hS => ?_)
  have hI := hI1
  show LG p l e s m b below meth c H locs (F0 m 1058 ls [.int z1])
  refine lv_pop hx hb dL_law_1058 rfl ?_
  refine lv_aload_n hx hb dL_law_1059 rfl (lv_at hl 2 rfl) ?_
  obtain ⟨r2, h2, hq, hM1⟩ := CALL_met (l := l) (dC := dC) (dI := dI) (ρ := ρ) (σ := σ) (a := a) pp_X9_lazy (Nat.le_of_ble_eq_true rfl) (k_X9_lazy h1 hI )
  obtain ⟨hI2, fr2, -, z2, rfl, -⟩ := hq
  refine c_L (n := 0) (v := 96) (As := []) (rest := []) ⟨hx, hb, hml, hown, hT⟩ hK hM hA hP hD hS pp_X9_lazy hM1 sh_96 mw_360 mw_361 mw_362 mw_173 (by decide +kernel) rfl ⟨Nat.le_of_ble_eq_true rfl, Nat.le_of_ble_eq_true rfl⟩ hl.1 (Nat.le_of_ble_eq_true rfl) rfl dL_law_1060 ⟨Nat.le_of_ble_eq_true rfl, Nat.le_of_ble_eq_true rfl⟩ (fun H locs hP hD hS => ?_)
  have hI := hI2
  show LG p l e s m b below meth c H locs (F0 m 1063 ls [.int z2])
  refine lv_pop hx hb dL_law_1063 rfl ?_
  refine lv_goto (tgt := 2146) hx hb dL_law_1064 (by decide) ?_
  exact hend _ _ _ _ hI (REL_fr fr1 fr2 (by decide) (by decide) hJ) hP hD hS hl
set_option maxRecDepth 100000 in
set_option maxHeartbeats 4000000 in
theorem lc_31 {p : Program} {l : Launch} {e : Env} {s : State} {m : MethodId} {below : List Frame} {meth : Method} {c : Code} {dC : Nat → ClassId} {dI : Nat → Nat → Nat} {b L : Nat} {xs : Nat → Int32} {H : Heap} {locs : List Loc} {ls : Array Slot} {ρ : Nat → Nat} {σ : Nat → Option Nat} {a : Nat → ClassId} {h : PH} {i : Int32} (C0 : lw_At p s m meth c b L xs) (hK : va_K (dC, dI) vwCl (tysP a) s) (hM : AMB σ (fun q : Nat => s.heap.size ≤ q) s s.heap) (hI : INV h) (hJ : REL h) (hP : va_P (dC, dI) vwCl (toW ρ a h) H) (hD : va_D (fun q : Nat => s.heap.size ≤ q) (toW ρ a h)) (hS : va_S (fun q : Nat => s.heap.size ≤ q) s.heap H locs) (hl : lv_has ls 4 [(0, .ref b), (1, .ref (ρ 0)), (2, .ref (ρ 96)), (3, .int i)]) (hi : 0 ≤ i.toInt ∧ i.toInt + 6 ≤ (L : Int) ∧ L ≤ 384) (hend : ∀ (H : Heap) (locs : List Loc) (ls : Array Slot) (h : PH), INV h → REL h → va_P (dC, dI) vwCl (toW ρ a h) H → va_D (fun q : Nat => s.heap.size ≤ q) (toW ρ a h) → va_S (fun q : Nat => s.heap.size ≤ q) s.heap H locs → lv_has ls 4 [(0, .ref b), (1, .ref (ρ 0)), (2, .ref (ρ 96)), (3, .int i)] → LG p l e s m b below meth c H locs (F0 m 2146 ls [])) : LG p l e s m b below meth c H locs (F0 m 1067 ls []) := by
  obtain ⟨hx, hb, hr, hml, hown, hts, hX, hbl, hlocks, hgv⟩ := C0
  have hT : ∀ w ∈ TB, w.before #[Value.ref b] s = true := fun w h => hts w (TB_lw h)
  have hown : s.vm.findClass RL = some m.cls := hown
  have hA : ∀ q : Nat, s.heap.size ≤ q → (fun q : Nat => s.heap.size ≤ q) q := fun _ h => h
  have hbA : ¬ (fun q : Nat => s.heap.size ≤ q) b := Nat.not_le.mpr hbl
  refine lv_aload_n hx hb dL_law_1067 rfl (lv_at hl 1 rfl) ?_
  obtain ⟨r1, h1, hq, hM1⟩ := CALL_met (l := l) (dC := dC) (dI := dI) (ρ := ρ) (σ := σ) (a := a) pp_X8_queue (Nat.le_of_ble_eq_true rfl) (k_X8_queue h hI )
  obtain ⟨hI1, fr1, -, z1, rfl, -⟩ := hq
  refine c_L (n := 0) (v := 0) (As := []) (rest := []) ⟨hx, hb, hml, hown, hT⟩ hK hM hA hP hD hS pp_X8_queue hM1 sh_0 mw_363 mw_364 mw_365 mw_168 (by decide +kernel) rfl ⟨Nat.le_of_ble_eq_true rfl, Nat.le_of_ble_eq_true rfl⟩ hl.1 (Nat.le_of_ble_eq_true rfl) rfl dL_law_1068 ⟨Nat.le_of_ble_eq_true rfl, Nat.le_of_ble_eq_true rfl⟩ (fun H locs hP hD hS => ?_)
  have hI := hI1
  show LG p l e s m b below meth c H locs (F0 m 1071 ls [.int z1])
  refine lv_pop hx hb dL_law_1071 rfl ?_
  refine lv_aload_n hx hb dL_law_1072 rfl (lv_at hl 2 rfl) ?_
  obtain ⟨r2, h2, hq, hM1⟩ := CALL_met (l := l) (dC := dC) (dI := dI) (ρ := ρ) (σ := σ) (a := a) pp_X9_queue (Nat.le_of_ble_eq_true rfl) (k_X9_queue h1 hI )
  obtain ⟨hI2, fr2, -, z2, rfl, -⟩ := hq
  refine c_L (n := 0) (v := 96) (As := []) (rest := []) ⟨hx, hb, hml, hown, hT⟩ hK hM hA hP hD hS pp_X9_queue hM1 sh_96 mw_366 mw_367 mw_368 mw_173 (by decide +kernel) rfl ⟨Nat.le_of_ble_eq_true rfl, Nat.le_of_ble_eq_true rfl⟩ hl.1 (Nat.le_of_ble_eq_true rfl) rfl dL_law_1073 ⟨Nat.le_of_ble_eq_true rfl, Nat.le_of_ble_eq_true rfl⟩ (fun H locs hP hD hS => ?_)
  have hI := hI2
  show LG p l e s m b below meth c H locs (F0 m 1076 ls [.int z2])
  refine lv_pop hx hb dL_law_1076 rfl ?_
  refine lv_goto (tgt := 2146) hx hb dL_law_1077 (by decide) ?_
  exact hend _ _ _ _ hI (REL_fr fr1 fr2 (by decide) (by decide) hJ) hP hD hS hl
set_option maxRecDepth 100000 in
set_option maxHeartbeats 4000000 in
theorem lc_32 {p : Program} {l : Launch} {e : Env} {s : State} {m : MethodId} {below : List Frame} {meth : Method} {c : Code} {dC : Nat → ClassId} {dI : Nat → Nat → Nat} {b L : Nat} {xs : Nat → Int32} {H : Heap} {locs : List Loc} {ls : Array Slot} {ρ : Nat → Nat} {σ : Nat → Option Nat} {a : Nat → ClassId} {h : PH} {i : Int32} (C0 : lw_At p s m meth c b L xs) (hK : va_K (dC, dI) vwCl (tysP a) s) (hM : AMB σ (fun q : Nat => s.heap.size ≤ q) s s.heap) (hI : INV h) (hJ : REL h) (hP : va_P (dC, dI) vwCl (toW ρ a h) H) (hD : va_D (fun q : Nat => s.heap.size ≤ q) (toW ρ a h)) (hS : va_S (fun q : Nat => s.heap.size ≤ q) s.heap H locs) (hl : lv_has ls 4 [(0, .ref b), (1, .ref (ρ 0)), (2, .ref (ρ 96)), (3, .int i)]) (hi : 0 ≤ i.toInt ∧ i.toInt + 6 ≤ (L : Int) ∧ L ≤ 384) (hend : ∀ (H : Heap) (locs : List Loc) (ls : Array Slot) (h : PH), INV h → REL h → va_P (dC, dI) vwCl (toW ρ a h) H → va_D (fun q : Nat => s.heap.size ≤ q) (toW ρ a h) → va_S (fun q : Nat => s.heap.size ≤ q) s.heap H locs → lv_has ls 4 [(0, .ref b), (1, .ref (ρ 0)), (2, .ref (ρ 96)), (3, .int i)] → LG p l e s m b below meth c H locs (F0 m 2146 ls [])) : LG p l e s m b below meth c H locs (F0 m 1080 ls []) := by
  obtain ⟨hx, hb, hr, hml, hown, hts, hX, hbl, hlocks, hgv⟩ := C0
  have hT : ∀ w ∈ TB, w.before #[Value.ref b] s = true := fun w h => hts w (TB_lw h)
  have hown : s.vm.findClass RL = some m.cls := hown
  have hA : ∀ q : Nat, s.heap.size ≤ q → (fun q : Nat => s.heap.size ≤ q) q := fun _ h => h
  have hbA : ¬ (fun q : Nat => s.heap.size ≤ q) b := Nat.not_le.mpr hbl
  refine lv_aload_n hx hb dL_law_1080 rfl (lv_at hl 1 rfl) ?_
  obtain ⟨r1, h1, hq, hM1⟩ := CALL_met (l := l) (dC := dC) (dI := dI) (ρ := ρ) (σ := σ) (a := a) pp_X8_kept (Nat.le_of_ble_eq_true rfl) (k_X8_kept h hI )
  obtain ⟨rfl, z1, rfl, -⟩ := hq
  refine c_L (n := 0) (v := 0) (As := []) (rest := []) ⟨hx, hb, hml, hown, hT⟩ hK hM hA hP hD hS pp_X8_kept hM1 sh_0 mw_369 mw_370 mw_371 mw_168 (by decide +kernel) rfl ⟨Nat.le_of_ble_eq_true rfl, Nat.le_of_ble_eq_true rfl⟩ hl.1 (Nat.le_of_ble_eq_true rfl) rfl dL_law_1081 ⟨Nat.le_of_ble_eq_true rfl, Nat.le_of_ble_eq_true rfl⟩ (fun H locs hP hD hS => ?_)
  show LG p l e s m b below meth c H locs (F0 m 1084 ls [.int z1])
  refine lv_pop hx hb dL_law_1084 rfl ?_
  refine lv_aload_n hx hb dL_law_1085 rfl (lv_at hl 2 rfl) ?_
  obtain ⟨r2, h2, hq, hM1⟩ := CALL_met (l := l) (dC := dC) (dI := dI) (ρ := ρ) (σ := σ) (a := a) pp_X9_kept (Nat.le_of_ble_eq_true rfl) (k_X9_kept h hI )
  obtain ⟨hI2, fr2, -, z2, rfl, -⟩ := hq
  refine c_L (n := 0) (v := 96) (As := []) (rest := []) ⟨hx, hb, hml, hown, hT⟩ hK hM hA hP hD hS pp_X9_kept hM1 sh_96 mw_372 mw_373 mw_374 mw_173 (by decide +kernel) rfl ⟨Nat.le_of_ble_eq_true rfl, Nat.le_of_ble_eq_true rfl⟩ hl.1 (Nat.le_of_ble_eq_true rfl) rfl dL_law_1086 ⟨Nat.le_of_ble_eq_true rfl, Nat.le_of_ble_eq_true rfl⟩ (fun H locs hP hD hS => ?_)
  have hI := hI2
  show LG p l e s m b below meth c H locs (F0 m 1089 ls [.int z2])
  refine lv_pop hx hb dL_law_1089 rfl ?_
  refine lv_goto (tgt := 2146) hx hb dL_law_1090 (by decide) ?_
  exact hend _ _ _ _ hI (REL_fr (FR.rf [] h) fr2 (by decide) (by decide) hJ) hP hD hS hl
set_option maxRecDepth 100000 in
set_option maxHeartbeats 4000000 in
theorem lc_33 {p : Program} {l : Launch} {e : Env} {s : State} {m : MethodId} {below : List Frame} {meth : Method} {c : Code} {dC : Nat → ClassId} {dI : Nat → Nat → Nat} {b L : Nat} {xs : Nat → Int32} {H : Heap} {locs : List Loc} {ls : Array Slot} {ρ : Nat → Nat} {σ : Nat → Option Nat} {a : Nat → ClassId} {h : PH} {i : Int32} (C0 : lw_At p s m meth c b L xs) (hK : va_K (dC, dI) vwCl (tysP a) s) (hM : AMB σ (fun q : Nat => s.heap.size ≤ q) s s.heap) (hI : INV h) (hJ : REL h) (hP : va_P (dC, dI) vwCl (toW ρ a h) H) (hD : va_D (fun q : Nat => s.heap.size ≤ q) (toW ρ a h)) (hS : va_S (fun q : Nat => s.heap.size ≤ q) s.heap H locs) (hl : lv_has ls 4 [(0, .ref b), (1, .ref (ρ 0)), (2, .ref (ρ 96)), (3, .int i)]) (hi : 0 ≤ i.toInt ∧ i.toInt + 6 ≤ (L : Int) ∧ L ≤ 384) (hend : ∀ (H : Heap) (locs : List Loc) (ls : Array Slot) (h : PH), INV h → REL h → va_P (dC, dI) vwCl (toW ρ a h) H → va_D (fun q : Nat => s.heap.size ≤ q) (toW ρ a h) → va_S (fun q : Nat => s.heap.size ≤ q) s.heap H locs → lv_has ls 4 [(0, .ref b), (1, .ref (ρ 0)), (2, .ref (ρ 96)), (3, .int i)] → LG p l e s m b below meth c H locs (F0 m 2146 ls [])) : LG p l e s m b below meth c H locs (F0 m 1093 ls []) := by
  obtain ⟨hx, hb, hr, hml, hown, hts, hX, hbl, hlocks, hgv⟩ := C0
  have hT : ∀ w ∈ TB, w.before #[Value.ref b] s = true := fun w h => hts w (TB_lw h)
  have hown : s.vm.findClass RL = some m.cls := hown
  have hA : ∀ q : Nat, s.heap.size ≤ q → (fun q : Nat => s.heap.size ≤ q) q := fun _ h => h
  have hbA : ¬ (fun q : Nat => s.heap.size ≤ q) b := Nat.not_le.mpr hbl
  refine lv_aload_n hx hb dL_law_1093 rfl (lv_at hl 1 rfl) ?_
  refine lv_aload_n hx hb dL_law_1094 rfl (lv_at hl 0 rfl) ?_
  refine lv_iload_n hx hb dL_law_1095 rfl (lv_at hl 3 rfl) ?_
  refine lv_iconst (v := 1) hx hb dL_law_1096 (by decide) ?_
  refine lv_iadd hx hb dL_law_1097 ?_
  refine va_sld hx hb hX hbl hbA hS (in_s hi (k := 1) (by decide)) dL_law_1098 ?_
  obtain ⟨r1, h1, hq, hM1⟩ := CALL_met (l := l) (dC := dC) (dI := dI) (ρ := ρ) (σ := σ) (a := a) pp_X8_until (Nat.le_of_ble_eq_true rfl) (k_X8_until h hI (xs (i + 1).toNatClampNeg))
  obtain ⟨hI1, fr1, -, z1, rfl, -⟩ := hq
  refine c_L (n := 1) (v := 0) (As := [.inl (xs (i + 1).toNatClampNeg)]) (rest := []) ⟨hx, hb, hml, hown, hT⟩ hK hM hA hP hD hS pp_X8_until hM1 sh_0 mw_375 mw_376 mw_377 mw_168 (by decide +kernel) rfl ⟨Nat.le_of_ble_eq_true rfl, Nat.le_of_ble_eq_true rfl⟩ hl.1 (Nat.le_of_ble_eq_true rfl) rfl dL_law_1099 ⟨Nat.le_of_ble_eq_true rfl, Nat.le_of_ble_eq_true rfl⟩ (fun H locs hP hD hS => ?_)
  have hI := hI1
  show LG p l e s m b below meth c H locs (F0 m 1102 ls [.int z1])
  refine lv_pop hx hb dL_law_1102 rfl ?_
  refine lv_aload_n hx hb dL_law_1103 rfl (lv_at hl 2 rfl) ?_
  refine lv_aload_n hx hb dL_law_1104 rfl (lv_at hl 0 rfl) ?_
  refine lv_iload_n hx hb dL_law_1105 rfl (lv_at hl 3 rfl) ?_
  refine lv_iconst (v := 1) hx hb dL_law_1106 (by decide) ?_
  refine lv_iadd hx hb dL_law_1107 ?_
  refine va_sld hx hb hX hbl hbA hS (in_s hi (k := 1) (by decide)) dL_law_1108 ?_
  obtain ⟨r2, h2, hq, hM1⟩ := CALL_met (l := l) (dC := dC) (dI := dI) (ρ := ρ) (σ := σ) (a := a) pp_X9_until (Nat.le_of_ble_eq_true rfl) (k_X9_until h1 hI (xs (i + 1).toNatClampNeg))
  obtain ⟨hI2, fr2, -, z2, rfl, -⟩ := hq
  refine c_L (n := 1) (v := 96) (As := [.inl (xs (i + 1).toNatClampNeg)]) (rest := []) ⟨hx, hb, hml, hown, hT⟩ hK hM hA hP hD hS pp_X9_until hM1 sh_96 mw_378 mw_379 mw_380 mw_173 (by decide +kernel) rfl ⟨Nat.le_of_ble_eq_true rfl, Nat.le_of_ble_eq_true rfl⟩ hl.1 (Nat.le_of_ble_eq_true rfl) rfl dL_law_1109 ⟨Nat.le_of_ble_eq_true rfl, Nat.le_of_ble_eq_true rfl⟩ (fun H locs hP hD hS => ?_)
  have hI := hI2
  show LG p l e s m b below meth c H locs (F0 m 1112 ls [.int z2])
  refine lv_pop hx hb dL_law_1112 rfl ?_
  refine lv_goto (tgt := 2146) hx hb dL_law_1113 (by decide) ?_
  exact hend _ _ _ _ hI (REL_fr fr1 fr2 (by decide) (by decide) hJ) hP hD hS hl
set_option maxRecDepth 100000 in
set_option maxHeartbeats 4000000 in
theorem lc_34 {p : Program} {l : Launch} {e : Env} {s : State} {m : MethodId} {below : List Frame} {meth : Method} {c : Code} {dC : Nat → ClassId} {dI : Nat → Nat → Nat} {b L : Nat} {xs : Nat → Int32} {H : Heap} {locs : List Loc} {ls : Array Slot} {ρ : Nat → Nat} {σ : Nat → Option Nat} {a : Nat → ClassId} {h : PH} {i : Int32} (C0 : lw_At p s m meth c b L xs) (hK : va_K (dC, dI) vwCl (tysP a) s) (hM : AMB σ (fun q : Nat => s.heap.size ≤ q) s s.heap) (hI : INV h) (hJ : REL h) (hP : va_P (dC, dI) vwCl (toW ρ a h) H) (hD : va_D (fun q : Nat => s.heap.size ≤ q) (toW ρ a h)) (hS : va_S (fun q : Nat => s.heap.size ≤ q) s.heap H locs) (hl : lv_has ls 4 [(0, .ref b), (1, .ref (ρ 0)), (2, .ref (ρ 96)), (3, .int i)]) (hi : 0 ≤ i.toInt ∧ i.toInt + 6 ≤ (L : Int) ∧ L ≤ 384) (hend : ∀ (H : Heap) (locs : List Loc) (ls : Array Slot) (h : PH), INV h → REL h → va_P (dC, dI) vwCl (toW ρ a h) H → va_D (fun q : Nat => s.heap.size ≤ q) (toW ρ a h) → va_S (fun q : Nat => s.heap.size ≤ q) s.heap H locs → lv_has ls 4 [(0, .ref b), (1, .ref (ρ 0)), (2, .ref (ρ 96)), (3, .int i)] → LG p l e s m b below meth c H locs (F0 m 2146 ls [])) : LG p l e s m b below meth c H locs (F0 m 1116 ls []) := by
  obtain ⟨hx, hb, hr, hml, hown, hts, hX, hbl, hlocks, hgv⟩ := C0
  have hT : ∀ w ∈ TB, w.before #[Value.ref b] s = true := fun w h => hts w (TB_lw h)
  have hown : s.vm.findClass RL = some m.cls := hown
  have hA : ∀ q : Nat, s.heap.size ≤ q → (fun q : Nat => s.heap.size ≤ q) q := fun _ h => h
  have hbA : ¬ (fun q : Nat => s.heap.size ≤ q) b := Nat.not_le.mpr hbl
  refine lv_aload_n hx hb dL_law_1116 rfl (lv_at hl 1 rfl) ?_
  refine lv_aload_n hx hb dL_law_1117 rfl (lv_at hl 0 rfl) ?_
  refine lv_iload_n hx hb dL_law_1118 rfl (lv_at hl 3 rfl) ?_
  refine lv_iconst (v := 1) hx hb dL_law_1119 (by decide) ?_
  refine lv_iadd hx hb dL_law_1120 ?_
  refine va_sld hx hb hX hbl hbA hS (in_s hi (k := 1) (by decide)) dL_law_1121 ?_
  obtain ⟨r1, h1, hq, hM1⟩ := CALL_met (l := l) (dC := dC) (dI := dI) (ρ := ρ) (σ := σ) (a := a) pp_X8_with (Nat.le_of_ble_eq_true rfl) (k_X8_with h hI (xs (i + 1).toNatClampNeg))
  obtain ⟨hI1, fr1, -, z1, rfl, -⟩ := hq
  refine c_L (n := 1) (v := 0) (As := [.inl (xs (i + 1).toNatClampNeg)]) (rest := []) ⟨hx, hb, hml, hown, hT⟩ hK hM hA hP hD hS pp_X8_with hM1 sh_0 mw_381 mw_382 mw_383 mw_168 (by decide +kernel) rfl ⟨Nat.le_of_ble_eq_true rfl, Nat.le_of_ble_eq_true rfl⟩ hl.1 (Nat.le_of_ble_eq_true rfl) rfl dL_law_1122 ⟨Nat.le_of_ble_eq_true rfl, Nat.le_of_ble_eq_true rfl⟩ (fun H locs hP hD hS => ?_)
  have hI := hI1
  show LG p l e s m b below meth c H locs (F0 m 1125 ls [.int z1])
  refine lv_pop hx hb dL_law_1125 rfl ?_
  refine lv_aload_n hx hb dL_law_1126 rfl (lv_at hl 2 rfl) ?_
  refine lv_aload_n hx hb dL_law_1127 rfl (lv_at hl 0 rfl) ?_
  refine lv_iload_n hx hb dL_law_1128 rfl (lv_at hl 3 rfl) ?_
  refine lv_iconst (v := 1) hx hb dL_law_1129 (by decide) ?_
  refine lv_iadd hx hb dL_law_1130 ?_
  refine va_sld hx hb hX hbl hbA hS (in_s hi (k := 1) (by decide)) dL_law_1131 ?_
  obtain ⟨r2, h2, hq, hM1⟩ := CALL_met (l := l) (dC := dC) (dI := dI) (ρ := ρ) (σ := σ) (a := a) pp_X9_with (Nat.le_of_ble_eq_true rfl) (k_X9_with h1 hI (xs (i + 1).toNatClampNeg))
  obtain ⟨hI2, fr2, -, z2, rfl, -⟩ := hq
  refine c_L (n := 1) (v := 96) (As := [.inl (xs (i + 1).toNatClampNeg)]) (rest := []) ⟨hx, hb, hml, hown, hT⟩ hK hM hA hP hD hS pp_X9_with hM1 sh_96 mw_384 mw_385 mw_386 mw_173 (by decide +kernel) rfl ⟨Nat.le_of_ble_eq_true rfl, Nat.le_of_ble_eq_true rfl⟩ hl.1 (Nat.le_of_ble_eq_true rfl) rfl dL_law_1132 ⟨Nat.le_of_ble_eq_true rfl, Nat.le_of_ble_eq_true rfl⟩ (fun H locs hP hD hS => ?_)
  have hI := hI2
  show LG p l e s m b below meth c H locs (F0 m 1135 ls [.int z2])
  refine lv_pop hx hb dL_law_1135 rfl ?_
  refine lv_goto (tgt := 2146) hx hb dL_law_1136 (by decide) ?_
  exact hend _ _ _ _ hI (REL_fr fr1 fr2 (by decide) (by decide) hJ) hP hD hS hl
set_option maxRecDepth 100000 in
set_option maxHeartbeats 4000000 in
theorem lc_35 {p : Program} {l : Launch} {e : Env} {s : State} {m : MethodId} {below : List Frame} {meth : Method} {c : Code} {dC : Nat → ClassId} {dI : Nat → Nat → Nat} {b L : Nat} {xs : Nat → Int32} {H : Heap} {locs : List Loc} {ls : Array Slot} {ρ : Nat → Nat} {σ : Nat → Option Nat} {a : Nat → ClassId} {h : PH} {i : Int32} (C0 : lw_At p s m meth c b L xs) (hK : va_K (dC, dI) vwCl (tysP a) s) (hM : AMB σ (fun q : Nat => s.heap.size ≤ q) s s.heap) (hI : INV h) (hJ : REL h) (hP : va_P (dC, dI) vwCl (toW ρ a h) H) (hD : va_D (fun q : Nat => s.heap.size ≤ q) (toW ρ a h)) (hS : va_S (fun q : Nat => s.heap.size ≤ q) s.heap H locs) (hl : lv_has ls 4 [(0, .ref b), (1, .ref (ρ 0)), (2, .ref (ρ 96)), (3, .int i)]) (hi : 0 ≤ i.toInt ∧ i.toInt + 6 ≤ (L : Int) ∧ L ≤ 384) (hend : ∀ (H : Heap) (locs : List Loc) (ls : Array Slot) (h : PH), INV h → REL h → va_P (dC, dI) vwCl (toW ρ a h) H → va_D (fun q : Nat => s.heap.size ≤ q) (toW ρ a h) → va_S (fun q : Nat => s.heap.size ≤ q) s.heap H locs → lv_has ls 4 [(0, .ref b), (1, .ref (ρ 0)), (2, .ref (ρ 96)), (3, .int i)] → LG p l e s m b below meth c H locs (F0 m 2146 ls [])) : LG p l e s m b below meth c H locs (F0 m 1139 ls []) := by
  obtain ⟨hx, hb, hr, hml, hown, hts, hX, hbl, hlocks, hgv⟩ := C0
  have hT : ∀ w ∈ TB, w.before #[Value.ref b] s = true := fun w h => hts w (TB_lw h)
  have hown : s.vm.findClass RL = some m.cls := hown
  have hA : ∀ q : Nat, s.heap.size ≤ q → (fun q : Nat => s.heap.size ≤ q) q := fun _ h => h
  have hbA : ¬ (fun q : Nat => s.heap.size ≤ q) b := Nat.not_le.mpr hbl
  refine lv_aload_n hx hb dL_law_1139 rfl (lv_at hl 1 rfl) ?_
  refine lv_aload_n hx hb dL_law_1140 rfl (lv_at hl 0 rfl) ?_
  refine lv_iload_n hx hb dL_law_1141 rfl (lv_at hl 3 rfl) ?_
  refine lv_iconst (v := 1) hx hb dL_law_1142 (by decide) ?_
  refine lv_iadd hx hb dL_law_1143 ?_
  refine va_sld hx hb hX hbl hbA hS (in_s hi (k := 1) (by decide)) dL_law_1144 ?_
  obtain ⟨r1, h1, hq, hM1⟩ := CALL_met (l := l) (dC := dC) (dI := dI) (ρ := ρ) (σ := σ) (a := a) pp_X8_ease (Nat.le_of_ble_eq_true rfl) (k_X8_ease h hI (xs (i + 1).toNatClampNeg))
  obtain ⟨hI1, fr1, -, z1, rfl, -⟩ := hq
  refine c_L (n := 1) (v := 0) (As := [.inl (xs (i + 1).toNatClampNeg)]) (rest := []) ⟨hx, hb, hml, hown, hT⟩ hK hM hA hP hD hS pp_X8_ease hM1 sh_0 mw_387 mw_388 mw_389 mw_168 (by decide +kernel) rfl ⟨Nat.le_of_ble_eq_true rfl, Nat.le_of_ble_eq_true rfl⟩ hl.1 (Nat.le_of_ble_eq_true rfl) rfl dL_law_1145 ⟨Nat.le_of_ble_eq_true rfl, Nat.le_of_ble_eq_true rfl⟩ (fun H locs hP hD hS => ?_)
  have hI := hI1
  show LG p l e s m b below meth c H locs (F0 m 1148 ls [.int z1])
  refine lv_pop hx hb dL_law_1148 rfl ?_
  refine lv_aload_n hx hb dL_law_1149 rfl (lv_at hl 2 rfl) ?_
  refine lv_aload_n hx hb dL_law_1150 rfl (lv_at hl 0 rfl) ?_
  refine lv_iload_n hx hb dL_law_1151 rfl (lv_at hl 3 rfl) ?_
  refine lv_iconst (v := 1) hx hb dL_law_1152 (by decide) ?_
  refine lv_iadd hx hb dL_law_1153 ?_
  refine va_sld hx hb hX hbl hbA hS (in_s hi (k := 1) (by decide)) dL_law_1154 ?_
  obtain ⟨r2, h2, hq, hM1⟩ := CALL_met (l := l) (dC := dC) (dI := dI) (ρ := ρ) (σ := σ) (a := a) pp_X9_ease (Nat.le_of_ble_eq_true rfl) (k_X9_ease h1 hI (xs (i + 1).toNatClampNeg))
  obtain ⟨hI2, fr2, -, z2, rfl, -⟩ := hq
  refine c_L (n := 1) (v := 96) (As := [.inl (xs (i + 1).toNatClampNeg)]) (rest := []) ⟨hx, hb, hml, hown, hT⟩ hK hM hA hP hD hS pp_X9_ease hM1 sh_96 mw_390 mw_391 mw_392 mw_173 (by decide +kernel) rfl ⟨Nat.le_of_ble_eq_true rfl, Nat.le_of_ble_eq_true rfl⟩ hl.1 (Nat.le_of_ble_eq_true rfl) rfl dL_law_1155 ⟨Nat.le_of_ble_eq_true rfl, Nat.le_of_ble_eq_true rfl⟩ (fun H locs hP hD hS => ?_)
  have hI := hI2
  show LG p l e s m b below meth c H locs (F0 m 1158 ls [.int z2])
  refine lv_pop hx hb dL_law_1158 rfl ?_
  refine lv_goto (tgt := 2146) hx hb dL_law_1159 (by decide) ?_
  exact hend _ _ _ _ hI (REL_fr fr1 fr2 (by decide) (by decide) hJ) hP hD hS hl
set_option maxRecDepth 100000 in
set_option maxHeartbeats 4000000 in
theorem lc_36 {p : Program} {l : Launch} {e : Env} {s : State} {m : MethodId} {below : List Frame} {meth : Method} {c : Code} {dC : Nat → ClassId} {dI : Nat → Nat → Nat} {b L : Nat} {xs : Nat → Int32} {H : Heap} {locs : List Loc} {ls : Array Slot} {ρ : Nat → Nat} {σ : Nat → Option Nat} {a : Nat → ClassId} {h : PH} {i : Int32} (C0 : lw_At p s m meth c b L xs) (hK : va_K (dC, dI) vwCl (tysP a) s) (hM : AMB σ (fun q : Nat => s.heap.size ≤ q) s s.heap) (hI : INV h) (hJ : REL h) (hP : va_P (dC, dI) vwCl (toW ρ a h) H) (hD : va_D (fun q : Nat => s.heap.size ≤ q) (toW ρ a h)) (hS : va_S (fun q : Nat => s.heap.size ≤ q) s.heap H locs) (hl : lv_has ls 4 [(0, .ref b), (1, .ref (ρ 0)), (2, .ref (ρ 96)), (3, .int i)]) (hi : 0 ≤ i.toInt ∧ i.toInt + 6 ≤ (L : Int) ∧ L ≤ 384) (hend : ∀ (H : Heap) (locs : List Loc) (ls : Array Slot) (h : PH), INV h → REL h → va_P (dC, dI) vwCl (toW ρ a h) H → va_D (fun q : Nat => s.heap.size ≤ q) (toW ρ a h) → va_S (fun q : Nat => s.heap.size ≤ q) s.heap H locs → lv_has ls 4 [(0, .ref b), (1, .ref (ρ 0)), (2, .ref (ρ 96)), (3, .int i)] → LG p l e s m b below meth c H locs (F0 m 2146 ls [])) : LG p l e s m b below meth c H locs (F0 m 1162 ls []) := by
  obtain ⟨hx, hb, hr, hml, hown, hts, hX, hbl, hlocks, hgv⟩ := C0
  have hT : ∀ w ∈ TB, w.before #[Value.ref b] s = true := fun w h => hts w (TB_lw h)
  have hown : s.vm.findClass RL = some m.cls := hown
  have hA : ∀ q : Nat, s.heap.size ≤ q → (fun q : Nat => s.heap.size ≤ q) q := fun _ h => h
  have hbA : ¬ (fun q : Nat => s.heap.size ≤ q) b := Nat.not_le.mpr hbl
  refine lv_aload_n hx hb dL_law_1162 rfl (lv_at hl 1 rfl) ?_
  refine lv_aload_n hx hb dL_law_1163 rfl (lv_at hl 0 rfl) ?_
  refine lv_iload_n hx hb dL_law_1164 rfl (lv_at hl 3 rfl) ?_
  refine lv_iconst (v := 1) hx hb dL_law_1165 (by decide) ?_
  refine lv_iadd hx hb dL_law_1166 ?_
  refine va_sld hx hb hX hbl hbA hS (in_s hi (k := 1) (by decide)) dL_law_1167 ?_
  obtain ⟨r1, h1, hq, hM1⟩ := CALL_met (l := l) (dC := dC) (dI := dI) (ρ := ρ) (σ := σ) (a := a) pp_X8_without (Nat.le_of_ble_eq_true rfl) (k_X8_without h hI (xs (i + 1).toNatClampNeg))
  obtain ⟨hI1, fr1, -, z1, rfl, -⟩ := hq
  refine c_L (n := 1) (v := 0) (As := [.inl (xs (i + 1).toNatClampNeg)]) (rest := []) ⟨hx, hb, hml, hown, hT⟩ hK hM hA hP hD hS pp_X8_without hM1 sh_0 mw_393 mw_394 mw_395 mw_168 (by decide +kernel) rfl ⟨Nat.le_of_ble_eq_true rfl, Nat.le_of_ble_eq_true rfl⟩ hl.1 (Nat.le_of_ble_eq_true rfl) rfl dL_law_1168 ⟨Nat.le_of_ble_eq_true rfl, Nat.le_of_ble_eq_true rfl⟩ (fun H locs hP hD hS => ?_)
  have hI := hI1
  show LG p l e s m b below meth c H locs (F0 m 1171 ls [.int z1])
  refine lv_pop hx hb dL_law_1171 rfl ?_
  refine lv_aload_n hx hb dL_law_1172 rfl (lv_at hl 2 rfl) ?_
  refine lv_aload_n hx hb dL_law_1173 rfl (lv_at hl 0 rfl) ?_
  refine lv_iload_n hx hb dL_law_1174 rfl (lv_at hl 3 rfl) ?_
  refine lv_iconst (v := 1) hx hb dL_law_1175 (by decide) ?_
  refine lv_iadd hx hb dL_law_1176 ?_
  refine va_sld hx hb hX hbl hbA hS (in_s hi (k := 1) (by decide)) dL_law_1177 ?_
  obtain ⟨r2, h2, hq, hM1⟩ := CALL_met (l := l) (dC := dC) (dI := dI) (ρ := ρ) (σ := σ) (a := a) pp_X9_without (Nat.le_of_ble_eq_true rfl) (k_X9_without h1 hI (xs (i + 1).toNatClampNeg))
  obtain ⟨hI2, fr2, -, z2, rfl, -⟩ := hq
  refine c_L (n := 1) (v := 96) (As := [.inl (xs (i + 1).toNatClampNeg)]) (rest := []) ⟨hx, hb, hml, hown, hT⟩ hK hM hA hP hD hS pp_X9_without hM1 sh_96 mw_396 mw_397 mw_398 mw_173 (by decide +kernel) rfl ⟨Nat.le_of_ble_eq_true rfl, Nat.le_of_ble_eq_true rfl⟩ hl.1 (Nat.le_of_ble_eq_true rfl) rfl dL_law_1178 ⟨Nat.le_of_ble_eq_true rfl, Nat.le_of_ble_eq_true rfl⟩ (fun H locs hP hD hS => ?_)
  have hI := hI2
  show LG p l e s m b below meth c H locs (F0 m 1181 ls [.int z2])
  refine lv_pop hx hb dL_law_1181 rfl ?_
  refine lv_goto (tgt := 2146) hx hb dL_law_1182 (by decide) ?_
  exact hend _ _ _ _ hI (REL_fr fr1 fr2 (by decide) (by decide) hJ) hP hD hS hl
set_option maxRecDepth 100000 in
set_option maxHeartbeats 4000000 in
theorem lc_37 {p : Program} {l : Launch} {e : Env} {s : State} {m : MethodId} {below : List Frame} {meth : Method} {c : Code} {dC : Nat → ClassId} {dI : Nat → Nat → Nat} {b L : Nat} {xs : Nat → Int32} {H : Heap} {locs : List Loc} {ls : Array Slot} {ρ : Nat → Nat} {σ : Nat → Option Nat} {a : Nat → ClassId} {h : PH} {i : Int32} (C0 : lw_At p s m meth c b L xs) (hK : va_K (dC, dI) vwCl (tysP a) s) (hM : AMB σ (fun q : Nat => s.heap.size ≤ q) s s.heap) (hI : INV h) (hJ : REL h) (hP : va_P (dC, dI) vwCl (toW ρ a h) H) (hD : va_D (fun q : Nat => s.heap.size ≤ q) (toW ρ a h)) (hS : va_S (fun q : Nat => s.heap.size ≤ q) s.heap H locs) (hl : lv_has ls 4 [(0, .ref b), (1, .ref (ρ 0)), (2, .ref (ρ 96)), (3, .int i)]) (hi : 0 ≤ i.toInt ∧ i.toInt + 6 ≤ (L : Int) ∧ L ≤ 384) (hend : ∀ (H : Heap) (locs : List Loc) (ls : Array Slot) (h : PH), INV h → REL h → va_P (dC, dI) vwCl (toW ρ a h) H → va_D (fun q : Nat => s.heap.size ≤ q) (toW ρ a h) → va_S (fun q : Nat => s.heap.size ≤ q) s.heap H locs → lv_has ls 4 [(0, .ref b), (1, .ref (ρ 0)), (2, .ref (ρ 96)), (3, .int i)] → LG p l e s m b below meth c H locs (F0 m 2146 ls [])) : LG p l e s m b below meth c H locs (F0 m 1185 ls []) := by
  obtain ⟨hx, hb, hr, hml, hown, hts, hX, hbl, hlocks, hgv⟩ := C0
  have hT : ∀ w ∈ TB, w.before #[Value.ref b] s = true := fun w h => hts w (TB_lw h)
  have hown : s.vm.findClass RL = some m.cls := hown
  have hA : ∀ q : Nat, s.heap.size ≤ q → (fun q : Nat => s.heap.size ≤ q) q := fun _ h => h
  have hbA : ¬ (fun q : Nat => s.heap.size ≤ q) b := Nat.not_le.mpr hbl
  refine lv_aload_n hx hb dL_law_1185 rfl (lv_at hl 1 rfl) ?_
  obtain ⟨r1, h1, hq, hM1⟩ := CALL_met (l := l) (dC := dC) (dI := dI) (ρ := ρ) (σ := σ) (a := a) pp_X8_settles (Nat.le_of_ble_eq_true rfl) (k_X8_settles h hI )
  obtain ⟨hI1, fr1, -, z1, rfl, -⟩ := hq
  refine c_L (n := 0) (v := 0) (As := []) (rest := []) ⟨hx, hb, hml, hown, hT⟩ hK hM hA hP hD hS pp_X8_settles hM1 sh_0 mw_399 mw_400 mw_401 mw_168 (by decide +kernel) rfl ⟨Nat.le_of_ble_eq_true rfl, Nat.le_of_ble_eq_true rfl⟩ hl.1 (Nat.le_of_ble_eq_true rfl) rfl dL_law_1186 ⟨Nat.le_of_ble_eq_true rfl, Nat.le_of_ble_eq_true rfl⟩ (fun H locs hP hD hS => ?_)
  have hI := hI1
  show LG p l e s m b below meth c H locs (F0 m 1189 ls [.int z1])
  refine lv_pop hx hb dL_law_1189 rfl ?_
  refine lv_aload_n hx hb dL_law_1190 rfl (lv_at hl 2 rfl) ?_
  obtain ⟨r2, h2, hq, hM1⟩ := CALL_met (l := l) (dC := dC) (dI := dI) (ρ := ρ) (σ := σ) (a := a) pp_X9_settles (Nat.le_of_ble_eq_true rfl) (k_X9_settles h1 hI )
  obtain ⟨hI2, fr2, -, z2, rfl, -⟩ := hq
  refine c_L (n := 0) (v := 96) (As := []) (rest := []) ⟨hx, hb, hml, hown, hT⟩ hK hM hA hP hD hS pp_X9_settles hM1 sh_96 mw_402 mw_403 mw_404 mw_173 (by decide +kernel) rfl ⟨Nat.le_of_ble_eq_true rfl, Nat.le_of_ble_eq_true rfl⟩ hl.1 (Nat.le_of_ble_eq_true rfl) rfl dL_law_1191 ⟨Nat.le_of_ble_eq_true rfl, Nat.le_of_ble_eq_true rfl⟩ (fun H locs hP hD hS => ?_)
  have hI := hI2
  show LG p l e s m b below meth c H locs (F0 m 1194 ls [.int z2])
  refine lv_pop hx hb dL_law_1194 rfl ?_
  refine lv_goto (tgt := 2146) hx hb dL_law_1195 (by decide) ?_
  exact hend _ _ _ _ hI (REL_fr fr1 fr2 (by decide) (by decide) hJ) hP hD hS hl
set_option maxRecDepth 100000 in
set_option maxHeartbeats 4000000 in
theorem lc_38 {p : Program} {l : Launch} {e : Env} {s : State} {m : MethodId} {below : List Frame} {meth : Method} {c : Code} {dC : Nat → ClassId} {dI : Nat → Nat → Nat} {b L : Nat} {xs : Nat → Int32} {H : Heap} {locs : List Loc} {ls : Array Slot} {ρ : Nat → Nat} {σ : Nat → Option Nat} {a : Nat → ClassId} {h : PH} {i : Int32} (C0 : lw_At p s m meth c b L xs) (hK : va_K (dC, dI) vwCl (tysP a) s) (hM : AMB σ (fun q : Nat => s.heap.size ≤ q) s s.heap) (hI : INV h) (hJ : REL h) (hP : va_P (dC, dI) vwCl (toW ρ a h) H) (hD : va_D (fun q : Nat => s.heap.size ≤ q) (toW ρ a h)) (hS : va_S (fun q : Nat => s.heap.size ≤ q) s.heap H locs) (hl : lv_has ls 4 [(0, .ref b), (1, .ref (ρ 0)), (2, .ref (ρ 96)), (3, .int i)]) (hi : 0 ≤ i.toInt ∧ i.toInt + 6 ≤ (L : Int) ∧ L ≤ 384) (hend : ∀ (H : Heap) (locs : List Loc) (ls : Array Slot) (h : PH), INV h → REL h → va_P (dC, dI) vwCl (toW ρ a h) H → va_D (fun q : Nat => s.heap.size ≤ q) (toW ρ a h) → va_S (fun q : Nat => s.heap.size ≤ q) s.heap H locs → lv_has ls 4 [(0, .ref b), (1, .ref (ρ 0)), (2, .ref (ρ 96)), (3, .int i)] → LG p l e s m b below meth c H locs (F0 m 2146 ls [])) : LG p l e s m b below meth c H locs (F0 m 1198 ls []) := by
  obtain ⟨hx, hb, hr, hml, hown, hts, hX, hbl, hlocks, hgv⟩ := C0
  have hT : ∀ w ∈ TB, w.before #[Value.ref b] s = true := fun w h => hts w (TB_lw h)
  have hown : s.vm.findClass RL = some m.cls := hown
  have hA : ∀ q : Nat, s.heap.size ≤ q → (fun q : Nat => s.heap.size ≤ q) q := fun _ h => h
  have hbA : ¬ (fun q : Nat => s.heap.size ≤ q) b := Nat.not_le.mpr hbl
  refine lv_aload_n hx hb dL_law_1198 rfl (lv_at hl 1 rfl) ?_
  obtain ⟨r1, h1, hq, hM1⟩ := CALL_met (l := l) (dC := dC) (dI := dI) (ρ := ρ) (σ := σ) (a := a) pp_X8_round (Nat.le_of_ble_eq_true rfl) (k_X8_round h hI )
  obtain ⟨hI1, fr1, -, z1, rfl, -⟩ := hq
  refine c_L (n := 0) (v := 0) (As := []) (rest := []) ⟨hx, hb, hml, hown, hT⟩ hK hM hA hP hD hS pp_X8_round hM1 sh_0 mw_405 mw_406 mw_407 mw_168 (by decide +kernel) rfl ⟨Nat.le_of_ble_eq_true rfl, Nat.le_of_ble_eq_true rfl⟩ hl.1 (Nat.le_of_ble_eq_true rfl) rfl dL_law_1199 ⟨Nat.le_of_ble_eq_true rfl, Nat.le_of_ble_eq_true rfl⟩ (fun H locs hP hD hS => ?_)
  have hI := hI1
  show LG p l e s m b below meth c H locs (F0 m 1202 ls [.int z1])
  refine lv_pop hx hb dL_law_1202 rfl ?_
  refine lv_aload_n hx hb dL_law_1203 rfl (lv_at hl 2 rfl) ?_
  obtain ⟨r2, h2, hq, hM1⟩ := CALL_met (l := l) (dC := dC) (dI := dI) (ρ := ρ) (σ := σ) (a := a) pp_X9_round (Nat.le_of_ble_eq_true rfl) (k_X9_round h1 hI )
  obtain ⟨hI2, fr2, -, z2, rfl, -⟩ := hq
  refine c_L (n := 0) (v := 96) (As := []) (rest := []) ⟨hx, hb, hml, hown, hT⟩ hK hM hA hP hD hS pp_X9_round hM1 sh_96 mw_408 mw_409 mw_410 mw_173 (by decide +kernel) rfl ⟨Nat.le_of_ble_eq_true rfl, Nat.le_of_ble_eq_true rfl⟩ hl.1 (Nat.le_of_ble_eq_true rfl) rfl dL_law_1204 ⟨Nat.le_of_ble_eq_true rfl, Nat.le_of_ble_eq_true rfl⟩ (fun H locs hP hD hS => ?_)
  have hI := hI2
  show LG p l e s m b below meth c H locs (F0 m 1207 ls [.int z2])
  refine lv_pop hx hb dL_law_1207 rfl ?_
  refine lv_goto (tgt := 2146) hx hb dL_law_1208 (by decide) ?_
  exact hend _ _ _ _ hI (REL_fr fr1 fr2 (by decide) (by decide) hJ) hP hD hS hl
set_option maxRecDepth 100000 in
set_option maxHeartbeats 4000000 in
theorem lc_39 {p : Program} {l : Launch} {e : Env} {s : State} {m : MethodId} {below : List Frame} {meth : Method} {c : Code} {dC : Nat → ClassId} {dI : Nat → Nat → Nat} {b L : Nat} {xs : Nat → Int32} {H : Heap} {locs : List Loc} {ls : Array Slot} {ρ : Nat → Nat} {σ : Nat → Option Nat} {a : Nat → ClassId} {h : PH} {i : Int32} (C0 : lw_At p s m meth c b L xs) (hK : va_K (dC, dI) vwCl (tysP a) s) (hM : AMB σ (fun q : Nat => s.heap.size ≤ q) s s.heap) (hI : INV h) (hJ : REL h) (hP : va_P (dC, dI) vwCl (toW ρ a h) H) (hD : va_D (fun q : Nat => s.heap.size ≤ q) (toW ρ a h)) (hS : va_S (fun q : Nat => s.heap.size ≤ q) s.heap H locs) (hl : lv_has ls 4 [(0, .ref b), (1, .ref (ρ 0)), (2, .ref (ρ 96)), (3, .int i)]) (hi : 0 ≤ i.toInt ∧ i.toInt + 6 ≤ (L : Int) ∧ L ≤ 384) (hend : ∀ (H : Heap) (locs : List Loc) (ls : Array Slot) (h : PH), INV h → REL h → va_P (dC, dI) vwCl (toW ρ a h) H → va_D (fun q : Nat => s.heap.size ≤ q) (toW ρ a h) → va_S (fun q : Nat => s.heap.size ≤ q) s.heap H locs → lv_has ls 4 [(0, .ref b), (1, .ref (ρ 0)), (2, .ref (ρ 96)), (3, .int i)] → LG p l e s m b below meth c H locs (F0 m 2146 ls [])) : LG p l e s m b below meth c H locs (F0 m 1211 ls []) := by
  obtain ⟨hx, hb, hr, hml, hown, hts, hX, hbl, hlocks, hgv⟩ := C0
  have hT : ∀ w ∈ TB, w.before #[Value.ref b] s = true := fun w h => hts w (TB_lw h)
  have hown : s.vm.findClass RL = some m.cls := hown
  have hA : ∀ q : Nat, s.heap.size ≤ q → (fun q : Nat => s.heap.size ≤ q) q := fun _ h => h
  have hbA : ¬ (fun q : Nat => s.heap.size ≤ q) b := Nat.not_le.mpr hbl
  refine lv_aload_n hx hb dL_law_1211 rfl (lv_at hl 1 rfl) ?_
  refine lv_aload_n hx hb dL_law_1212 rfl (lv_at hl 0 rfl) ?_
  refine lv_iload_n hx hb dL_law_1213 rfl (lv_at hl 3 rfl) ?_
  refine lv_iconst (v := 1) hx hb dL_law_1214 (by decide) ?_
  refine lv_iadd hx hb dL_law_1215 ?_
  refine va_sld hx hb hX hbl hbA hS (in_s hi (k := 1) (by decide)) dL_law_1216 ?_
  obtain ⟨r1, h1, hq, hM1⟩ := CALL_met (l := l) (dC := dC) (dI := dI) (ρ := ρ) (σ := σ) (a := a) pp_X8_rate (Nat.le_of_ble_eq_true rfl) (k_X8_rate h hI (xs (i + 1).toNatClampNeg))
  obtain ⟨hI1, fr1, -, z1, rfl, -⟩ := hq
  refine c_L (n := 1) (v := 0) (As := [.inl (xs (i + 1).toNatClampNeg)]) (rest := []) ⟨hx, hb, hml, hown, hT⟩ hK hM hA hP hD hS pp_X8_rate hM1 sh_0 mw_411 mw_412 mw_413 mw_168 (by decide +kernel) rfl ⟨Nat.le_of_ble_eq_true rfl, Nat.le_of_ble_eq_true rfl⟩ hl.1 (Nat.le_of_ble_eq_true rfl) rfl dL_law_1217 ⟨Nat.le_of_ble_eq_true rfl, Nat.le_of_ble_eq_true rfl⟩ (fun H locs hP hD hS => ?_)
  have hI := hI1
  show LG p l e s m b below meth c H locs (F0 m 1220 ls [.int z1])
  refine lv_pop hx hb dL_law_1220 rfl ?_
  refine lv_aload_n hx hb dL_law_1221 rfl (lv_at hl 2 rfl) ?_
  refine lv_aload_n hx hb dL_law_1222 rfl (lv_at hl 0 rfl) ?_
  refine lv_iload_n hx hb dL_law_1223 rfl (lv_at hl 3 rfl) ?_
  refine lv_iconst (v := 1) hx hb dL_law_1224 (by decide) ?_
  refine lv_iadd hx hb dL_law_1225 ?_
  refine va_sld hx hb hX hbl hbA hS (in_s hi (k := 1) (by decide)) dL_law_1226 ?_
  obtain ⟨r2, h2, hq, hM1⟩ := CALL_met (l := l) (dC := dC) (dI := dI) (ρ := ρ) (σ := σ) (a := a) pp_X9_rate (Nat.le_of_ble_eq_true rfl) (k_X9_rate h1 hI (xs (i + 1).toNatClampNeg))
  obtain ⟨hI2, fr2, -, z2, rfl, -⟩ := hq
  refine c_L (n := 1) (v := 96) (As := [.inl (xs (i + 1).toNatClampNeg)]) (rest := []) ⟨hx, hb, hml, hown, hT⟩ hK hM hA hP hD hS pp_X9_rate hM1 sh_96 mw_414 mw_415 mw_416 mw_173 (by decide +kernel) rfl ⟨Nat.le_of_ble_eq_true rfl, Nat.le_of_ble_eq_true rfl⟩ hl.1 (Nat.le_of_ble_eq_true rfl) rfl dL_law_1227 ⟨Nat.le_of_ble_eq_true rfl, Nat.le_of_ble_eq_true rfl⟩ (fun H locs hP hD hS => ?_)
  have hI := hI2
  show LG p l e s m b below meth c H locs (F0 m 1230 ls [.int z2])
  refine lv_pop hx hb dL_law_1230 rfl ?_
  refine lv_goto (tgt := 2146) hx hb dL_law_1231 (by decide) ?_
  exact hend _ _ _ _ hI (REL_fr fr1 fr2 (by decide) (by decide) hJ) hP hD hS hl
