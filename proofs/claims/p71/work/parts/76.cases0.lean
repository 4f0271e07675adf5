set_option maxRecDepth 100000 in
set_option maxHeartbeats 4000000 in
theorem lc_0 {p : Program} {l : Launch} {e : Env} {s : State} {m : MethodId} {below : List Frame} {meth : Method} {c : Code} {dC : Nat → ClassId} {dI : Nat → Nat → Nat} {b L : Nat} {xs : Nat → Int32} {H : Heap} {locs : List Loc} {ls : Array Slot} {ρ : Nat → Nat} {σ : Nat → Option Nat} {a : Nat → ClassId} {h : PH} {i : Int32} (C0 : lw_At p s m meth c b L xs) (hK : va_K (dC, dI) vwCl (tysP a) s) (hM : AMB σ (fun q : Nat => s.heap.size ≤ q) s s.heap) (hI : INV h) (hJ : REL h) (hP : va_P (dC, dI) vwCl (toW ρ a h) H) (hD : va_D (fun q : Nat => s.heap.size ≤ q) (toW ρ a h)) (hS : va_S (fun q : Nat => s.heap.size ≤ q) s.heap H locs) (hl : lv_has ls 4 [(0, .ref b), (1, .ref (ρ 0)), (2, .ref (ρ 96)), (3, .int i)]) (hi : 0 ≤ i.toInt ∧ i.toInt + 6 ≤ (L : Int) ∧ L ≤ 384) (hend : ∀ (H : Heap) (locs : List Loc) (ls : Array Slot) (h : PH), INV h → REL h → va_P (dC, dI) vwCl (toW ρ a h) H → va_D (fun q : Nat => s.heap.size ≤ q) (toW ρ a h) → va_S (fun q : Nat => s.heap.size ≤ q) s.heap H locs → lv_has ls 4 [(0, .ref b), (1, .ref (ρ 0)), (2, .ref (ρ 96)), (3, .int i)] → LG p l e s m b below meth c H locs (F0 m 2146 ls [])) : LG p l e s m b below meth c H locs (F0 m 344 ls []) := by
  obtain ⟨hx, hb, hr, hml, hown, hts, hX, hbl, hlocks, hgv⟩ := C0
  have hT : ∀ w ∈ TB, w.before #[Value.ref b] s = true := fun w h => hts w (TB_lw h)
  have hown : s.vm.findClass RL = some m.cls := hown
  have hA : ∀ q : Nat, s.heap.size ≤ q → (fun q : Nat => s.heap.size ≤ q) q := fun _ h => h
  have hbA : ¬ (fun q : Nat => s.heap.size ≤ q) b := Nat.not_le.mpr hbl
  refine lv_aload_n hx hb dL_law_344 rfl (lv_at hl 1 rfl) ?_
  refine lv_aload_n hx hb dL_law_345 rfl (lv_at hl 0 rfl) ?_
  refine lv_iload_n hx hb dL_law_346 rfl (lv_at hl 3 rfl) ?_
  refine lv_iconst (v := 1) hx hb dL_law_347 (by decide) ?_
  refine lv_iadd hx hb dL_law_348 ?_
  refine va_sld hx hb hX hbl hbA hS (in_s hi (k := 1) (by decide)) dL_law_349 ?_
  refine lv_aload_n hx hb dL_law_350 rfl (lv_at hl 0 rfl) ?_
  refine lv_iload_n hx hb dL_law_351 rfl (lv_at hl 3 rfl) ?_
  refine lv_iconst (v := 2) hx hb dL_law_352 (by decide) ?_
  refine lv_iadd hx hb dL_law_353 ?_
  refine va_sld hx hb hX hbl hbA hS (in_s hi (k := 2) (by decide)) dL_law_354 ?_
  refine lv_aload_n hx hb dL_law_355 rfl (lv_at hl 0 rfl) ?_
  refine lv_iload_n hx hb dL_law_356 rfl (lv_at hl 3 rfl) ?_
  refine lv_iconst (v := 3) hx hb dL_law_357 (by decide) ?_
  refine lv_iadd hx hb dL_law_358 ?_
  refine va_sld hx hb hX hbl hbA hS (in_s hi (k := 3) (by decide)) dL_law_359 ?_
  refine lv_aload_n hx hb dL_law_360 rfl (lv_at hl 0 rfl) ?_
  refine lv_iload_n hx hb dL_law_361 rfl (lv_at hl 3 rfl) ?_
  refine lv_iconst (v := 4) hx hb dL_law_362 (by decide) ?_
  refine lv_iadd hx hb dL_law_363 ?_
  refine va_sld hx hb hX hbl hbA hS (in_s hi (k := 4) (by decide)) dL_law_364 ?_
  refine lv_aload_n hx hb dL_law_365 rfl (lv_at hl 0 rfl) ?_
  refine lv_iload_n hx hb dL_law_366 rfl (lv_at hl 3 rfl) ?_
  refine lv_iconst (v := 5) hx hb dL_law_367 (by decide) ?_
  refine lv_iadd hx hb dL_law_368 ?_
  refine va_sld hx hb hX hbl hbA hS (in_s hi (k := 5) (by decide)) dL_law_369 ?_
  obtain ⟨r1, h1, hq, hM1⟩ := CALL_met (l := l) (dC := dC) (dI := dI) (ρ := ρ) (σ := σ) (a := a) pp_X8_feed (Nat.le_of_ble_eq_true rfl) (k_X8_feed h hI (xs (i + 1).toNatClampNeg) (xs (i + 2).toNatClampNeg) (xs (i + 3).toNatClampNeg) (xs (i + 4).toNatClampNeg) (xs (i + 5).toNatClampNeg))
  obtain ⟨hI1, fr1, -, z1, rfl, -⟩ := hq
  refine c_L (n := 5) (v := 0) (As := [.inl (xs (i + 1).toNatClampNeg), .inl (xs (i + 2).toNatClampNeg), .inl (xs (i + 3).toNatClampNeg), .inl (xs (i + 4).toNatClampNeg), .inl (xs (i + 5).toNatClampNeg)]) (rest := []) ⟨hx, hb, hml, hown, hT⟩ hK hM hA hP hD hS pp_X8_feed hM1 sh_0 mw_177 mw_178 mw_179 mw_168 (by decide +kernel) rfl ⟨Nat.le_of_ble_eq_true rfl, Nat.le_of_ble_eq_true rfl⟩ hl.1 (Nat.le_of_ble_eq_true rfl) rfl dL_law_370 ⟨Nat.le_of_ble_eq_true rfl, Nat.le_of_ble_eq_true rfl⟩ (fun H locs hP hD hS => ?_)
  have hI := hI1
  show LG p l e s m b below meth c H locs (F0 m 373 ls [.int z1])
  refine lv_pop hx hb dL_law_373 rfl ?_
  refine lv_aload_n hx hb dL_law_374 rfl (lv_at hl 2 rfl) ?_
  refine lv_aload_n hx hb dL_law_375 rfl (lv_at hl 0 rfl) ?_
  refine lv_iload_n hx hb dL_law_376 rfl (lv_at hl 3 rfl) ?_
  refine lv_iconst (v := 1) hx hb dL_law_377 (by decide) ?_
  refine lv_iadd hx hb dL_law_378 ?_
  refine va_sld hx hb hX hbl hbA hS (in_s hi (k := 1) (by decide)) dL_law_379 ?_
  refine lv_aload_n hx hb dL_law_380 rfl (lv_at hl 0 rfl) ?_
  refine lv_iload_n hx hb dL_law_381 rfl (lv_at hl 3 rfl) ?_
  refine lv_iconst (v := 2) hx hb dL_law_382 (by decide) ?_
  refine lv_iadd hx hb dL_law_383 ?_
  refine va_sld hx hb hX hbl hbA hS (in_s hi (k := 2) (by decide)) dL_law_384 ?_
  refine lv_aload_n hx hb dL_law_385 rfl (lv_at hl 0 rfl) ?_
  refine lv_iload_n hx hb dL_law_386 rfl (lv_at hl 3 rfl) ?_
  refine lv_iconst (v := 3) hx hb dL_law_387 (by decide) ?_
  refine lv_iadd hx hb dL_law_388 ?_
  refine va_sld hx hb hX hbl hbA hS (in_s hi (k := 3) (by decide)) dL_law_389 ?_
  refine lv_aload_n hx hb dL_law_390 rfl (lv_at hl 0 rfl) ?_
  refine lv_iload_n hx hb dL_law_391 rfl (lv_at hl 3 rfl) ?_
  refine lv_iconst (v := 4) hx hb dL_law_392 (by decide) ?_
  refine lv_iadd hx hb dL_law_393 ?_
  refine va_sld hx hb hX hbl hbA hS (in_s hi (k := 4) (by decide)) dL_law_394 ?_
  refine lv_aload_n hx hb dL_law_395 rfl (lv_at hl 0 rfl) ?_
  refine lv_iload_n hx hb dL_law_396 rfl (lv_at hl 3 rfl) ?_
  refine lv_iconst (v := 5) hx hb dL_law_397 (by decide) ?_
  refine lv_iadd hx hb dL_law_398 ?_
  refine va_sld hx hb hX hbl hbA hS (in_s hi (k := 5) (by decide)) dL_law_399 ?_
  obtain ⟨r2, h2, hq, hM1⟩ := CALL_met (l := l) (dC := dC) (dI := dI) (ρ := ρ) (σ := σ) (a := a) pp_X9_feed (Nat.le_of_ble_eq_true rfl) (k_X9_feed h1 hI (xs (i + 1).toNatClampNeg) (xs (i + 2).toNatClampNeg) (xs (i + 3).toNatClampNeg) (xs (i + 4).toNatClampNeg) (xs (i + 5).toNatClampNeg))
  obtain ⟨hI2, fr2, -, z2, rfl, -⟩ := hq
  refine c_L (n := 5) (v := 96) (As := [.inl (xs (i + 1).toNatClampNeg), .inl (xs (i + 2).toNatClampNeg), .inl (xs (i + 3).toNatClampNeg), .inl (xs (i + 4).toNatClampNeg), .inl (xs (i + 5).toNatClampNeg)]) (rest := []) ⟨hx, hb, hml, hown, hT⟩ hK hM hA hP hD hS pp_X9_feed hM1 sh_96 mw_180 mw_181 mw_182 mw_173 (by decide +kernel) rfl ⟨Nat.le_of_ble_eq_true rfl, Nat.le_of_ble_eq_true rfl⟩ hl.1 (Nat.le_of_ble_eq_true rfl) rfl dL_law_400 ⟨Nat.le_of_ble_eq_true rfl, Nat.le_of_ble_eq_true rfl⟩ (fun H locs hP hD hS => ?_)
  have hI := hI2
  show LG p l e s m b below meth c H locs (F0 m 403 ls [.int z2])
  refine lv_pop hx hb dL_law_403 rfl ?_
  refine lv_goto (tgt := 2146) hx hb dL_law_404 (by decide) ?_
  exact hend _ _ _ _ hI (REL_fr fr1 fr2 (by decide) (by decide) hJ) hP hD hS hl
set_option maxRecDepth 100000 in
set_option maxHeartbeats 4000000 in
theorem lc_1 {p : Program} {l : Launch} {e : Env} {s : State} {m : MethodId} {below : List Frame} {meth : Method} {c : Code} {dC : Nat → ClassId} {dI : Nat → Nat → Nat} {b L : Nat} {xs : Nat → Int32} {H : Heap} {locs : List Loc} {ls : Array Slot} {ρ : Nat → Nat} {σ : Nat → Option Nat} {a : Nat → ClassId} {h : PH} {i : Int32} (C0 : lw_At p s m meth c b L xs) (hK : va_K (dC, dI) vwCl (tysP a) s) (hM : AMB σ (fun q : Nat => s.heap.size ≤ q) s s.heap) (hI : INV h) (hJ : REL h) (hP : va_P (dC, dI) vwCl (toW ρ a h) H) (hD : va_D (fun q : Nat => s.heap.size ≤ q) (toW ρ a h)) (hS : va_S (fun q : Nat => s.heap.size ≤ q) s.heap H locs) (hl : lv_has ls 4 [(0, .ref b), (1, .ref (ρ 0)), (2, .ref (ρ 96)), (3, .int i)]) (hi : 0 ≤ i.toInt ∧ i.toInt + 6 ≤ (L : Int) ∧ L ≤ 384) (hend : ∀ (H : Heap) (locs : List Loc) (ls : Array Slot) (h : PH), INV h → REL h → va_P (dC, dI) vwCl (toW ρ a h) H → va_D (fun q : Nat => s.heap.size ≤ q) (toW ρ a h) → va_S (fun q : Nat => s.heap.size ≤ q) s.heap H locs → lv_has ls 4 [(0, .ref b), (1, .ref (ρ 0)), (2, .ref (ρ 96)), (3, .int i)] → LG p l e s m b below meth c H locs (F0 m 2146 ls [])) : LG p l e s m b below meth c H locs (F0 m 407 ls []) := by
  obtain ⟨hx, hb, hr, hml, hown, hts, hX, hbl, hlocks, hgv⟩ := C0
  have hT : ∀ w ∈ TB, w.before #[Value.ref b] s = true := fun w h => hts w (TB_lw h)
  have hown : s.vm.findClass RL = some m.cls := hown
  have hA : ∀ q : Nat, s.heap.size ≤ q → (fun q : Nat => s.heap.size ≤ q) q := fun _ h => h
  have hbA : ¬ (fun q : Nat => s.heap.size ≤ q) b := Nat.not_le.mpr hbl
  refine lv_aload_n hx hb dL_law_407 rfl (lv_at hl 1 rfl) ?_
  refine lv_aload_n hx hb dL_law_408 rfl (lv_at hl 0 rfl) ?_
  refine lv_iload_n hx hb dL_law_409 rfl (lv_at hl 3 rfl) ?_
  refine lv_iconst (v := 1) hx hb dL_law_410 (by decide) ?_
  refine lv_iadd hx hb dL_law_411 ?_
  refine va_sld hx hb hX hbl hbA hS (in_s hi (k := 1) (by decide)) dL_law_412 ?_
  obtain ⟨r1, h1, hq, hM1⟩ := CALL_met (l := l) (dC := dC) (dI := dI) (ρ := ρ) (σ := σ) (a := a) pp_X8_end (Nat.le_of_ble_eq_true rfl) (k_X8_end h hI (xs (i + 1).toNatClampNeg))
  obtain ⟨hI1, fr1, -, z1, rfl, -⟩ := hq
  refine c_L (n := 1) (v := 0) (As := [.inl (xs (i + 1).toNatClampNeg)]) (rest := []) ⟨hx, hb, hml, hown, hT⟩ hK hM hA hP hD hS pp_X8_end hM1 sh_0 mw_183 mw_184 mw_185 mw_168 (by decide +kernel) rfl ⟨Nat.le_of_ble_eq_true rfl, Nat.le_of_ble_eq_true rfl⟩ hl.1 (Nat.le_of_ble_eq_true rfl) rfl dL_law_413 ⟨Nat.le_of_ble_eq_true rfl, Nat.le_of_ble_eq_true rfl⟩ (fun H locs hP hD hS => ?_)
  have hI := hI1
  show LG p l e s m b below meth c H locs (F0 m 416 ls [.int z1])
  refine lv_pop hx hb dL_law_416 rfl ?_
  refine lv_aload_n hx hb dL_law_417 rfl (lv_at hl 2 rfl) ?_
  refine lv_aload_n hx hb dL_law_418 rfl (lv_at hl 0 rfl) ?_
  refine lv_iload_n hx hb dL_law_419 rfl (lv_at hl 3 rfl) ?_
  refine lv_iconst (v := 1) hx hb dL_law_420 (by decide) ?_
  refine lv_iadd hx hb dL_law_421 ?_
  refine va_sld hx hb hX hbl hbA hS (in_s hi (k := 1) (by decide)) dL_law_422 ?_
  obtain ⟨r2, h2, hq, hM1⟩ := CALL_met (l := l) (dC := dC) (dI := dI) (ρ := ρ) (σ := σ) (a := a) pp_X9_end (Nat.le_of_ble_eq_true rfl) (k_X9_end h1 hI (xs (i + 1).toNatClampNeg))
  obtain ⟨hI2, fr2, -, z2, rfl, -⟩ := hq
  refine c_L (n := 1) (v := 96) (As := [.inl (xs (i + 1).toNatClampNeg)]) (rest := []) ⟨hx, hb, hml, hown, hT⟩ hK hM hA hP hD hS pp_X9_end hM1 sh_96 mw_186 mw_187 mw_188 mw_173 (by decide +kernel) rfl ⟨Nat.le_of_ble_eq_true rfl, Nat.le_of_ble_eq_true rfl⟩ hl.1 (Nat.le_of_ble_eq_true rfl) rfl dL_law_423 ⟨Nat.le_of_ble_eq_true rfl, Nat.le_of_ble_eq_true rfl⟩ (fun H locs hP hD hS => ?_)
  have hI := hI2
  show LG p l e s m b below meth c H locs (F0 m 426 ls [.int z2])
  refine lv_pop hx hb dL_law_426 rfl ?_
  refine lv_goto (tgt := 2146) hx hb dL_law_427 (by decide) ?_
  exact hend _ _ _ _ hI (REL_fr fr1 fr2 (by decide) (by decide) hJ) hP hD hS hl
set_option maxRecDepth 100000 in
set_option maxHeartbeats 4000000 in
theorem lc_2 {p : Program} {l : Launch} {e : Env} {s : State} {m : MethodId} {below : List Frame} {meth : Method} {c : Code} {dC : Nat → ClassId} {dI : Nat → Nat → Nat} {b L : Nat} {xs : Nat → Int32} {H : Heap} {locs : List Loc} {ls : Array Slot} {ρ : Nat → Nat} {σ : Nat → Option Nat} {a : Nat → ClassId} {h : PH} {i : Int32} (C0 : lw_At p s m meth c b L xs) (hK : va_K (dC, dI) vwCl (tysP a) s) (hM : AMB σ (fun q : Nat => s.heap.size ≤ q) s s.heap) (hI : INV h) (hJ : REL h) (hP : va_P (dC, dI) vwCl (toW ρ a h) H) (hD : va_D (fun q : Nat => s.heap.size ≤ q) (toW ρ a h)) (hS : va_S (fun q : Nat => s.heap.size ≤ q) s.heap H locs) (hl : lv_has ls 4 [(0, .ref b), (1, .ref (ρ 0)), (2, .ref (ρ 96)), (3, .int i)]) (hi : 0 ≤ i.toInt ∧ i.toInt + 6 ≤ (L : Int) ∧ L ≤ 384) (hend : ∀ (H : Heap) (locs : List Loc) (ls : Array Slot) (h : PH), INV h → REL h → va_P (dC, dI) vwCl (toW ρ a h) H → va_D (fun q : Nat => s.heap.size ≤ q) (toW ρ a h) → va_S (fun q : Nat => s.heap.size ≤ q) s.heap H locs → lv_has ls 4 [(0, .ref b), (1, .ref (ρ 0)), (2, .ref (ρ 96)), (3, .int i)] → LG p l e s m b below meth c H locs (F0 m 2146 ls [])) : LG p l e s m b below meth c H locs (F0 m 430 ls []) := by
  obtain ⟨hx, hb, hr, hml, hown, hts, hX, hbl, hlocks, hgv⟩ := C0
  have hT : ∀ w ∈ TB, w.before #[Value.ref b] s = true := fun w h => hts w (TB_lw h)
  have hown : s.vm.findClass RL = some m.cls := hown
  have hA : ∀ q : Nat, s.heap.size ≤ q → (fun q : Nat => s.heap.size ≤ q) q := fun _ h => h
  have hbA : ¬ (fun q : Nat => s.heap.size ≤ q) b := Nat.not_le.mpr hbl
  refine lv_aload_n hx hb dL_law_430 rfl (lv_at hl 1 rfl) ?_
  obtain ⟨r1, h1, hq, hM1⟩ := CALL_met (l := l) (dC := dC) (dI := dI) (ρ := ρ) (σ := σ) (a := a) pp_X8_brigade (Nat.le_of_ble_eq_true rfl) (k_X8_brigade h hI )
  obtain ⟨hI1, fr1, -, z1, rfl, -⟩ := hq
  refine c_L (n := 0) (v := 0) (As := []) (rest := []) ⟨hx, hb, hml, hown, hT⟩ hK hM hA hP hD hS pp_X8_brigade hM1 sh_0 mw_189 mw_190 mw_191 mw_168 (by decide +kernel) rfl ⟨Nat.le_of_ble_eq_true rfl, Nat.le_of_ble_eq_true rfl⟩ hl.1 (Nat.le_of_ble_eq_true rfl) rfl dL_law_431 ⟨Nat.le_of_ble_eq_true rfl, Nat.le_of_ble_eq_true rfl⟩ (fun H locs hP hD hS => ?_)
  have hI := hI1
  show LG p l e s m b below meth c H locs (F0 m 434 ls [.int z1])
  refine lv_pop hx hb dL_law_434 rfl ?_
  refine lv_aload_n hx hb dL_law_435 rfl (lv_at hl 2 rfl) ?_
  obtain ⟨r2, h2, hq, hM1⟩ := CALL_met (l := l) (dC := dC) (dI := dI) (ρ := ρ) (σ := σ) (a := a) pp_X9_brigade (Nat.le_of_ble_eq_true rfl) (k_X9_brigade h1 hI )
  obtain ⟨hI2, fr2, -, z2, rfl, -⟩ := hq
  refine c_L (n := 0) (v := 96) (As := []) (rest := []) ⟨hx, hb, hml, hown, hT⟩ hK hM hA hP hD hS pp_X9_brigade hM1 sh_96 mw_192 mw_193 mw_194 mw_173 (by decide +kernel) rfl ⟨Nat.le_of_ble_eq_true rfl, Nat.le_of_ble_eq_true rfl⟩ hl.1 (Nat.le_of_ble_eq_true rfl) rfl dL_law_436 ⟨Nat.le_of_ble_eq_true rfl, Nat.le_of_ble_eq_true rfl⟩ (fun H locs hP hD hS => ?_)
  have hI := hI2
  show LG p l e s m b below meth c H locs (F0 m 439 ls [.int z2])
  refine lv_pop hx hb dL_law_439 rfl ?_
  refine lv_goto (tgt := 2146) hx hb dL_law_440 (by decide) ?_
  exact hend _ _ _ _ hI (REL_fr fr1 fr2 (by decide) (by decide) hJ) hP hD hS hl
set_option maxRecDepth 100000 in
set_option maxHeartbeats 4000000 in
theorem lc_3 {p : Program} {l : Launch} {e : Env} {s : State} {m : MethodId} {below : List Frame} {meth : Method} {c : Code} {dC : Nat → ClassId} {dI : Nat → Nat → Nat} {b L : Nat} {xs : Nat → Int32} {H : Heap} {locs : List Loc} {ls : Array Slot} {ρ : Nat → Nat} {σ : Nat → Option Nat} {a : Nat → ClassId} {h : PH} {i : Int32} (C0 : lw_At p s m meth c b L xs) (hK : va_K (dC, dI) vwCl (tysP a) s) (hM : AMB σ (fun q : Nat => s.heap.size ≤ q) s s.heap) (hI : INV h) (hJ : REL h) (hP : va_P (dC, dI) vwCl (toW ρ a h) H) (hD : va_D (fun q : Nat => s.heap.size ≤ q) (toW ρ a h)) (hS : va_S (fun q : Nat => s.heap.size ≤ q) s.heap H locs) (hl : lv_has ls 4 [(0, .ref b), (1, .ref (ρ 0)), (2, .ref (ρ 96)), (3, .int i)]) (hi : 0 ≤ i.toInt ∧ i.toInt + 6 ≤ (L : Int) ∧ L ≤ 384) (hend : ∀ (H : Heap) (locs : List Loc) (ls : Array Slot) (h : PH), INV h → REL h → va_P (dC, dI) vwCl (toW ρ a h) H → va_D (fun q : Nat => s.heap.size ≤ q) (toW ρ a h) → va_S (fun q : Nat => s.heap.size ≤ q) s.heap H locs → lv_has ls 4 [(0, .ref b), (1, .ref (ρ 0)), (2, .ref (ρ 96)), (3, .int i)] → LG p l e s m b below meth c H locs (F0 m 2146 ls [])) : LG p l e s m b below meth c H locs (F0 m 443 ls []) := by
  obtain ⟨hx, hb, hr, hml, hown, hts, hX, hbl, hlocks, hgv⟩ := C0
  have hT : ∀ w ∈ TB, w.before #[Value.ref b] s = true := fun w h => hts w (TB_lw h)
  have hown : s.vm.findClass RL = some m.cls := hown
  have hA : ∀ q : Nat, s.heap.size ≤ q → (fun q : Nat => s.heap.size ≤ q) q := fun _ h => h
  have hbA : ¬ (fun q : Nat => s.heap.size ≤ q) b := Nat.not_le.mpr hbl
  refine lv_aload_n hx hb dL_law_443 rfl (lv_at hl 1 rfl) ?_
  refine lv_aload_n hx hb dL_law_444 rfl (lv_at hl 0 rfl) ?_
  refine lv_iload_n hx hb dL_law_445 rfl (lv_at hl 3 rfl) ?_
  refine lv_iconst (v := 1) hx hb dL_law_446 (by decide) ?_
  refine lv_iadd hx hb dL_law_447 ?_
  refine va_sld hx hb hX hbl hbA hS (in_s hi (k := 1) (by decide)) dL_law_448 ?_
  obtain ⟨r1, h1, hq, hM1⟩ := CALL_met (l := l) (dC := dC) (dI := dI) (ρ := ρ) (σ := σ) (a := a) pp_X8_fault (Nat.le_of_ble_eq_true rfl) (k_X8_fault h hI (xs (i + 1).toNatClampNeg))
  obtain ⟨rfl, z1, rfl, -⟩ := hq
  refine c_L (n := 1) (v := 0) (As := [.inl (xs (i + 1).toNatClampNeg)]) (rest := []) ⟨hx, hb, hml, hown, hT⟩ hK hM hA hP hD hS pp_X8_fault hM1 sh_0 mw_195 mw_196 mw_197 mw_168 (by decide +kernel) rfl ⟨Nat.le_of_ble_eq_true rfl, Nat.le_of_ble_eq_true rfl⟩ hl.1 (Nat.le_of_ble_eq_true rfl) rfl dL_law_449 ⟨Nat.le_of_ble_eq_true rfl, Nat.le_of_ble_eq_true rfl⟩ (fun H locs hP hD hS => ?_)
  show LG p l e s m b below meth c H locs (F0 m 452 ls [.int z1])
  refine lv_pop hx hb dL_law_452 rfl ?_
  refine lv_aload_n hx hb dL_law_453 rfl (lv_at hl 2 rfl) ?_
  refine lv_aload_n hx hb dL_law_454 rfl (lv_at hl 0 rfl) ?_
  refine lv_iload_n hx hb dL_law_455 rfl (lv_at hl 3 rfl) ?_
  refine lv_iconst (v := 1) hx hb dL_law_456 (by decide) ?_
  refine lv_iadd hx hb dL_law_457 ?_
  refine va_sld hx hb hX hbl hbA hS (in_s hi (k := 1) (by decide)) dL_law_458 ?_
  obtain ⟨r2, h2, hq, hM1⟩ := CALL_met (l := l) (dC := dC) (dI := dI) (ρ := ρ) (σ := σ) (a := a) pp_X9_fault (Nat.le_of_ble_eq_true rfl) (k_X9_fault h hI (xs (i + 1).toNatClampNeg))
  obtain ⟨rfl, z2, rfl, -⟩ := hq
  refine c_L (n := 1) (v := 96) (As := [.inl (xs (i + 1).toNatClampNeg)]) (rest := []) ⟨hx, hb, hml, hown, hT⟩ hK hM hA hP hD hS pp_X9_fault hM1 sh_96 mw_198 mw_199 mw_200 mw_173 (by decide +kernel) rfl ⟨Nat.le_of_ble_eq_true rfl, Nat.le_of_ble_eq_true rfl⟩ hl.1 (Nat.le_of_ble_eq_true rfl) rfl dL_law_459 ⟨Nat.le_of_ble_eq_true rfl, Nat.le_of_ble_eq_true rfl⟩ (fun H locs hP hD hS => ?_)
  show LG p l e s m b below meth c H locs (F0 m 462 ls [.int z2])
  refine lv_pop hx hb dL_law_462 rfl ?_
  refine lv_goto (tgt := 2146) hx hb dL_law_463 (by decide) ?_
  exact hend _ _ _ _ hI (REL_fr (FR.rf [] h) (FR.rf [] h) (by decide) (by decide) hJ) hP hD hS hl
set_option maxRecDepth 100000 in
set_option maxHeartbeats 4000000 in
theorem lc_4 {p : Program} {l : Launch} {e : Env} {s : State} {m : MethodId} {below : List Frame} {meth : Method} {c : Code} {dC : Nat → ClassId} {dI : Nat → Nat → Nat} {b L : Nat} {xs : Nat → Int32} {H : Heap} {locs : List Loc} {ls : Array Slot} {ρ : Nat → Nat} {σ : Nat → Option Nat} {a : Nat → ClassId} {h : PH} {i : Int32} (C0 : lw_At p s m meth c b L xs) (hK : va_K (dC, dI) vwCl (tysP a) s) (hM : AMB σ (fun q : Nat => s.heap.size ≤ q) s s.heap) (hI : INV h) (hJ : REL h) (hP : va_P (dC, dI) vwCl (toW ρ a h) H) (hD : va_D (fun q : Nat => s.heap.size ≤ q) (toW ρ a h)) (hS : va_S (fun q : Nat => s.heap.size ≤ q) s.heap H locs) (hl : lv_has ls 4 [(0, .ref b), (1, .ref (ρ 0)), (2, .ref (ρ 96)), (3, .int i)]) (hi : 0 ≤ i.toInt ∧ i.toInt + 6 ≤ (L : Int) ∧ L ≤ 384) (hend : ∀ (H : Heap) (locs : List Loc) (ls : Array Slot) (h : PH), INV h → REL h → va_P (dC, dI) vwCl (toW ρ a h) H → va_D (fun q : Nat => s.heap.size ≤ q) (toW ρ a h) → va_S (fun q : Nat => s.heap.size ≤ q) s.heap H locs → lv_has ls 4 [(0, .ref b), (1, .ref (ρ 0)), (2, .ref (ρ 96)), (3, .int i)] → LG p l e s m b below meth c H locs (F0 m 2146 ls [])) : LG p l e s m b below meth c H locs (F0 m 466 ls []) := by
  obtain ⟨hx, hb, hr, hml, hown, hts, hX, hbl, hlocks, hgv⟩ := C0
  have hT : ∀ w ∈ TB, w.before #[Value.ref b] s = true := fun w h => hts w (TB_lw h)
  have hown : s.vm.findClass RL = some m.cls := hown
  have hA : ∀ q : Nat, s.heap.size ≤ q → (fun q : Nat => s.heap.size ≤ q) q := fun _ h => h
  have hbA : ¬ (fun q : Nat => s.heap.size ≤ q) b := Nat.not_le.mpr hbl
  refine lv_aload_n hx hb dL_law_466 rfl (lv_at hl 1 rfl) ?_
  refine lv_aload_n hx hb dL_law_467 rfl (lv_at hl 0 rfl) ?_
  refine lv_iload_n hx hb dL_law_468 rfl (lv_at hl 3 rfl) ?_
  refine lv_iconst (v := 1) hx hb dL_law_469 (by decide) ?_
  refine lv_iadd hx hb dL_law_470 ?_
  refine va_sld hx hb hX hbl hbA hS (in_s hi (k := 1) (by decide)) dL_law_471 ?_
  refine lv_aload_n hx hb dL_law_472 rfl (lv_at hl 0 rfl) ?_
  refine lv_iload_n hx hb dL_law_473 rfl (lv_at hl 3 rfl) ?_
  refine lv_iconst (v := 2) hx hb dL_law_474 (by decide) ?_
  refine lv_iadd hx hb dL_law_475 ?_
  refine va_sld hx hb hX hbl hbA hS (in_s hi (k := 2) (by decide)) dL_law_476 ?_
  obtain ⟨r1, h1, hq, hM1⟩ := CALL_met (l := l) (dC := dC) (dI := dI) (ρ := ρ) (σ := σ) (a := a) pp_X8_hand (Nat.le_of_ble_eq_true rfl) (k_X8_hand h hI (xs (i + 1).toNatClampNeg) (xs (i + 2).toNatClampNeg))
  obtain ⟨rfl, z1, rfl, -⟩ := hq
  refine c_L (n := 2) (v := 0) (As := [.inl (xs (i + 1).toNatClampNeg), .inl (xs (i + 2).toNatClampNeg)]) (rest := []) ⟨hx, hb, hml, hown, hT⟩ hK hM hA hP hD hS pp_X8_hand hM1 sh_0 mw_201 mw_202 mw_203 mw_168 (by decide +kernel) rfl ⟨Nat.le_of_ble_eq_true rfl, Nat.le_of_ble_eq_true rfl⟩ hl.1 (Nat.le_of_ble_eq_true rfl) rfl dL_law_477 ⟨Nat.le_of_ble_eq_true rfl, Nat.le_of_ble_eq_true rfl⟩ (fun H locs hP hD hS => ?_)
  show LG p l e s m b below meth c H locs (F0 m 480 ls [.int z1])
  refine lv_pop hx hb dL_law_480 rfl ?_
  refine lv_aload_n hx hb dL_law_481 rfl (lv_at hl 2 rfl) ?_
  refine lv_aload_n hx hb dL_law_482 rfl (lv_at hl 0 rfl) ?_
  refine lv_iload_n hx hb dL_law_483 rfl (lv_at hl 3 rfl) ?_
  refine lv_iconst (v := 1) hx hb dL_law_484 (by decide) ?_
  refine lv_iadd hx hb dL_law_485 ?_
  refine va_sld hx hb hX hbl hbA hS (in_s hi (k := 1) (by decide)) dL_law_486 ?_
  refine lv_aload_n hx hb dL_law_487 rfl (lv_at hl 0 rfl) ?_
  refine lv_iload_n hx hb dL_law_488 rfl (lv_at hl 3 rfl) ?_
  refine lv_iconst (v := 2) hx hb dL_law_489 (by decide) ?_
  refine lv_iadd hx hb dL_law_490 ?_
  refine va_sld hx hb hX hbl hbA hS (in_s hi (k := 2) (by decide)) dL_law_491 ?_
  obtain ⟨r2, h2, hq, hM1⟩ := CALL_met (l := l) (dC := dC) (dI := dI) (ρ := ρ) (σ := σ) (a := a) pp_X9_hand (Nat.le_of_ble_eq_true rfl) (k_X9_hand h hI (xs (i + 1).toNatClampNeg) (xs (i + 2).toNatClampNeg))
  obtain ⟨hI2, fr2, -, z2, rfl, -⟩ := hq
  refine c_L (n := 2) (v := 96) (As := [.inl (xs (i + 1).toNatClampNeg), .inl (xs (i + 2).toNatClampNeg)]) (rest := []) ⟨hx, hb, hml, hown, hT⟩ hK hM hA hP hD hS pp_X9_hand hM1 sh_96 mw_204 mw_205 mw_206 mw_173 (by decide +kernel) rfl ⟨Nat.le_of_ble_eq_true rfl, Nat.le_of_ble_eq_true rfl⟩ hl.1 (Nat.le_of_ble_eq_true rfl) rfl dL_law_492 ⟨Nat.le_of_ble_eq_true rfl, Nat.le_of_ble_eq_true rfl⟩ (fun H locs hP hD hS => ?_)
  have hI := hI2
  show LG p l e s m b below meth c H locs (F0 m 495 ls [.int z2])
  refine lv_pop hx hb dL_law_495 rfl ?_
  refine lv_goto (tgt := 2146) hx hb dL_law_496 (by decide) ?_
  exact hend _ _ _ _ hI (REL_fr (FR.rf [] h) fr2 (by decide) (by decide) hJ) hP hD hS hl
set_option maxRecDepth 100000 in
set_option maxHeartbeats 4000000 in
theorem lc_5 {p : Program} {l : Launch} {e : Env} {s : State} {m : MethodId} {below : List Frame} {meth : Method} {c : Code} {dC : Nat → ClassId} {dI : Nat → Nat → Nat} {b L : Nat} {xs : Nat → Int32} {H : Heap} {locs : List Loc} {ls : Array Slot} {ρ : Nat → Nat} {σ : Nat → Option Nat} {a : Nat → ClassId} {h : PH} {i : Int32} (C0 : lw_At p s m meth c b L xs) (hK : va_K (dC, dI) vwCl (tysP a) s) (hM : AMB σ (fun q : Nat => s.heap.size ≤ q) s s.heap) (hI : INV h) (hJ : REL h) (hP : va_P (dC, dI) vwCl (toW ρ a h) H) (hD : va_D (fun q : Nat => s.heap.size ≤ q) (toW ρ a h)) (hS : va_S (fun q : Nat => s.heap.size ≤ q) s.heap H locs) (hl : lv_has ls 4 [(0, .ref b), (1, .ref (ρ 0)), (2, .ref (ρ 96)), (3, .int i)]) (hi : 0 ≤ i.toInt ∧ i.toInt + 6 ≤ (L : Int) ∧ L ≤ 384) (hend : ∀ (H : Heap) (locs : List Loc) (ls : Array Slot) (h : PH), INV h → REL h → va_P (dC, dI) vwCl (toW ρ a h) H → va_D (fun q : Nat => s.heap.size ≤ q) (toW ρ a h) → va_S (fun q : Nat => s.heap.size ≤ q) s.heap H locs → lv_has ls 4 [(0, .ref b), (1, .ref (ρ 0)), (2, .ref (ρ 96)), (3, .int i)] → LG p l e s m b below meth c H locs (F0 m 2146 ls [])) : LG p l e s m b below meth c H locs (F0 m 499 ls []) := by
  obtain ⟨hx, hb, hr, hml, hown, hts, hX, hbl, hlocks, hgv⟩ := C0
  have hT : ∀ w ∈ TB, w.before #[Value.ref b] s = true := fun w h => hts w (TB_lw h)
  have hown : s.vm.findClass RL = some m.cls := hown
  have hA : ∀ q : Nat, s.heap.size ≤ q → (fun q : Nat => s.heap.size ≤ q) q := fun _ h => h
  have hbA : ¬ (fun q : Nat => s.heap.size ≤ q) b := Nat.not_le.mpr hbl
  refine lv_aload_n hx hb dL_law_499 rfl (lv_at hl 1 rfl) ?_
  refine lv_aload_n hx hb dL_law_500 rfl (lv_at hl 0 rfl) ?_
  refine lv_iload_n hx hb dL_law_501 rfl (lv_at hl 3 rfl) ?_
  refine lv_iconst (v := 1) hx hb dL_law_502 (by decide) ?_
  refine lv_iadd hx hb dL_law_503 ?_
  refine va_sld hx hb hX hbl hbA hS (in_s hi (k := 1) (by decide)) dL_law_504 ?_
  refine lv_aload_n hx hb dL_law_505 rfl (lv_at hl 0 rfl) ?_
  refine lv_iload_n hx hb dL_law_506 rfl (lv_at hl 3 rfl) ?_
  refine lv_iconst (v := 2) hx hb dL_law_507 (by decide) ?_
  refine lv_iadd hx hb dL_law_508 ?_
  refine va_sld hx hb hX hbl hbA hS (in_s hi (k := 2) (by decide)) dL_law_509 ?_
  obtain ⟨r1, h1, hq, hM1⟩ := CALL_met (l := l) (dC := dC) (dI := dI) (ρ := ρ) (σ := σ) (a := a) pp_X8_pair (Nat.le_of_ble_eq_true rfl) (k_X8_pair h hI (xs (i + 1).toNatClampNeg) (xs (i + 2).toNatClampNeg))
  obtain ⟨rfl, z1, rfl, -⟩ := hq
  refine c_L (n := 2) (v := 0) (As := [.inl (xs (i + 1).toNatClampNeg), .inl (xs (i + 2).toNatClampNeg)]) (rest := []) ⟨hx, hb, hml, hown, hT⟩ hK hM hA hP hD hS pp_X8_pair hM1 sh_0 mw_207 mw_208 mw_209 mw_168 (by decide +kernel) rfl ⟨Nat.le_of_ble_eq_true rfl, Nat.le_of_ble_eq_true rfl⟩ hl.1 (Nat.le_of_ble_eq_true rfl) rfl dL_law_510 ⟨Nat.le_of_ble_eq_true rfl, Nat.le_of_ble_eq_true rfl⟩ (fun H locs hP hD hS => ?_)
  show LG p l e s m b below meth c H locs (F0 m 513 ls [.int z1])
  refine lv_pop hx hb dL_law_513 rfl ?_
  refine lv_aload_n hx hb dL_law_514 rfl (lv_at hl 2 rfl) ?_
  refine lv_aload_n hx hb dL_law_515 rfl (lv_at hl 0 rfl) ?_
  refine lv_iload_n hx hb dL_law_516 rfl (lv_at hl 3 rfl) ?_
  refine lv_iconst (v := 1) hx hb dL_law_517 (by decide) ?_
  refine lv_iadd hx hb dL_law_518 ?_
  refine va_sld hx hb hX hbl hbA hS (in_s hi (k := 1) (by decide)) dL_law_519 ?_
  refine lv_aload_n hx hb dL_law_520 rfl (lv_at hl 0 rfl) ?_
  refine lv_iload_n hx hb dL_law_521 rfl (lv_at hl 3 rfl) ?_
  refine lv_iconst (v := 2) hx hb dL_law_522 (by decide) ?_
  refine lv_iadd hx hb dL_law_523 ?_
  refine va_sld hx hb hX hbl hbA hS (in_s hi (k := 2) (by decide)) dL_law_524 ?_
  obtain ⟨r2, h2, hq, hM1⟩ := CALL_met (l := l) (dC := dC) (dI := dI) (ρ := ρ) (σ := σ) (a := a) pp_X9_pair (Nat.le_of_ble_eq_true rfl) (k_X9_pair h hI (xs (i + 1).toNatClampNeg) (xs (i + 2).toNatClampNeg))
  obtain ⟨rfl, z2, rfl, -⟩ := hq
  refine c_L (n := 2) (v := 96) (As := [.inl (xs (i + 1).toNatClampNeg), .inl (xs (i + 2).toNatClampNeg)]) (rest := []) ⟨hx, hb, hml, hown, hT⟩ hK hM hA hP hD hS pp_X9_pair hM1 sh_96 mw_210 mw_211 mw_212 mw_173 (by decide +kernel) rfl ⟨Nat.le_of_ble_eq_true rfl, Nat.le_of_ble_eq_true rfl⟩ hl.1 (Nat.le_of_ble_eq_true rfl) rfl dL_law_525 ⟨Nat.le_of_ble_eq_true rfl, Nat.le_of_ble_eq_true rfl⟩ (fun H locs hP hD hS => ?_)
  show LG p l e s m b below meth c H locs (F0 m 528 ls [.int z2])
  refine lv_pop hx hb dL_law_528 rfl ?_
  refine lv_goto (tgt := 2146) hx hb dL_law_529 (by decide) ?_
  exact hend _ _ _ _ hI (REL_fr (FR.rf [] h) (FR.rf [] h) (by decide) (by decide) hJ) hP hD hS hl
set_option maxRecDepth 100000 in
set_option maxHeartbeats 4000000 in
theorem lc_6 {p : Program} {l : Launch} {e : Env} {s : State} {m : MethodId} {below : List Frame} {meth : Method} {c : Code} {dC : Nat → ClassId} {dI : Nat → Nat → Nat} {b L : Nat} {xs : Nat → Int32} {H : Heap} {locs : List Loc} {ls : Array Slot} {ρ : Nat → Nat} {σ : Nat → Option Nat} {a : Nat → ClassId} {h : PH} {i : Int32} (C0 : lw_At p s m meth c b L xs) (hK : va_K (dC, dI) vwCl (tysP a) s) (hM : AMB σ (fun q : Nat => s.heap.size ≤ q) s s.heap) (hI : INV h) (hJ : REL h) (hP : va_P (dC, dI) vwCl (toW ρ a h) H) (hD : va_D (fun q : Nat => s.heap.size ≤ q) (toW ρ a h)) (hS : va_S (fun q : Nat => s.heap.size ≤ q) s.heap H locs) (hl : lv_has ls 4 [(0, .ref b), (1, .ref (ρ 0)), (2, .ref (ρ 96)), (3, .int i)]) (hi : 0 ≤ i.toInt ∧ i.toInt + 6 ≤ (L : Int) ∧ L ≤ 384) (hend : ∀ (H : Heap) (locs : List Loc) (ls : Array Slot) (h : PH), INV h → REL h → va_P (dC, dI) vwCl (toW ρ a h) H → va_D (fun q : Nat => s.heap.size ≤ q) (toW ρ a h) → va_S (fun q : Nat => s.heap.size ≤ q) s.heap H locs → lv_has ls 4 [(0, .ref b), (1, .ref (ρ 0)), (2, .ref (ρ 96)), (3, .int i)] → LG p l e s m b below meth c H locs (F0 m 2146 ls [])) : LG p l e s m b below meth c H locs (F0 m 532 ls []) := by
  obtain ⟨hx, hb, hr, hml, hown, hts, hX, hbl, hlocks, hgv⟩ := C0
  have hT : ∀ w ∈ TB, w.before #[Value.ref b] s = true := fun w h => hts w (TB_lw h)
  have hown : s.vm.findClass RL = some m.cls := hown
  have hA : ∀ q : Nat, s.heap.size ≤ q → (fun q : Nat => s.heap.size ≤ q) q := fun _ h => h
  have hbA : ¬ (fun q : Nat => s.heap.size ≤ q) b := Nat.not_le.mpr hbl
  refine lv_aload_n hx hb dL_law_532 rfl (lv_at hl 1 rfl) ?_
  refine lv_aload_n hx hb dL_law_533 rfl (lv_at hl 0 rfl) ?_
  refine lv_iload_n hx hb dL_law_534 rfl (lv_at hl 3 rfl) ?_
  refine lv_iconst (v := 1) hx hb dL_law_535 (by decide) ?_
  refine lv_iadd hx hb dL_law_536 ?_
  refine va_sld hx hb hX hbl hbA hS (in_s hi (k := 1) (by decide)) dL_law_537 ?_
  obtain ⟨r1, h1, hq, hM1⟩ := CALL_met (l := l) (dC := dC) (dI := dI) (ρ := ρ) (σ := σ) (a := a) pp_X8_keeps (Nat.le_of_ble_eq_true rfl) (k_X8_keeps h hI (xs (i + 1).toNatClampNeg))
  obtain ⟨rfl, z1, rfl, -⟩ := hq
  refine c_L (n := 1) (v := 0) (As := [.inl (xs (i + 1).toNatClampNeg)]) (rest := []) ⟨hx, hb, hml, hown, hT⟩ hK hM hA hP hD hS pp_X8_keeps hM1 sh_0 mw_213 mw_214 mw_215 mw_168 (by decide +kernel) rfl ⟨Nat.le_of_ble_eq_true rfl, Nat.le_of_ble_eq_true rfl⟩ hl.1 (Nat.le_of_ble_eq_true rfl) rfl dL_law_538 ⟨Nat.le_of_ble_eq_true rfl, Nat.le_of_ble_eq_true rfl⟩ (fun H locs hP hD hS => ?_)
  show LG p l e s m b below meth c H locs (F0 m 541 ls [.int z1])
  refine lv_pop hx hb dL_law_541 rfl ?_
  refine lv_aload_n hx hb dL_law_542 rfl (lv_at hl 2 rfl) ?_
  refine lv_aload_n hx hb dL_law_543 rfl (lv_at hl 0 rfl) ?_
  refine lv_iload_n hx hb dL_law_544 rfl (lv_at hl 3 rfl) ?_
  refine lv_iconst (v := 1) hx hb dL_law_545 (by decide) ?_
  refine lv_iadd hx hb dL_law_546 ?_
  refine va_sld hx hb hX hbl hbA hS (in_s hi (k := 1) (by decide)) dL_law_547 ?_
  obtain ⟨r2, h2, hq, hM1⟩ := CALL_met (l := l) (dC := dC) (dI := dI) (ρ := ρ) (σ := σ) (a := a) pp_X9_keeps (Nat.le_of_ble_eq_true rfl) (k_X9_keeps h hI (xs (i + 1).toNatClampNeg))
  obtain ⟨hI2, fr2, -, z2, rfl, -⟩ := hq
  refine c_L (n := 1) (v := 96) (As := [.inl (xs (i + 1).toNatClampNeg)]) (rest := []) ⟨hx, hb, hml, hown, hT⟩ hK hM hA hP hD hS pp_X9_keeps hM1 sh_96 mw_216 mw_217 mw_218 mw_173 (by decide +kernel) rfl ⟨Nat.le_of_ble_eq_true rfl, Nat.le_of_ble_eq_true rfl⟩ hl.1 (Nat.le_of_ble_eq_true rfl) rfl dL_law_548 ⟨Nat.le_of_ble_eq_true rfl, Nat.le_of_ble_eq_true rfl⟩ (fun H locs hP hD hS => ?_)
  have hI := hI2
  show LG p l e s m b below meth c H locs (F0 m 551 ls [.int z2])
  refine lv_pop hx hb dL_law_551 rfl ?_
  refine lv_goto (tgt := 2146) hx hb dL_law_552 (by decide) ?_
  exact hend _ _ _ _ hI (REL_fr (FR.rf [] h) fr2 (by decide) (by decide) hJ) hP hD hS hl
set_option maxRecDepth 100000 in
set_option maxHeartbeats 4000000 in
theorem lc_7 {p : Program} {l : Launch} {e : Env} {s : State} {m : MethodId} {below : List Frame} {meth : Method} {c : Code} {dC : Nat → ClassId} {dI : Nat → Nat → Nat} {b L : Nat} {xs : Nat → Int32} {H : Heap} {locs : List Loc} {ls : Array Slot} {ρ : Nat → Nat} {σ : Nat → Option Nat} {a : Nat → ClassId} {h : PH} {i : Int32} (C0 : lw_At p s m meth c b L xs) (hK : va_K (dC, dI) vwCl (tysP a) s) (hM : AMB σ (fun q : Nat => s.heap.size ≤ q) s s.heap) (hI : INV h) (hJ : REL h) (hP : va_P (dC, dI) vwCl (toW ρ a h) H) (hD : va_D (fun q : Nat => s.heap.size ≤ q) (toW ρ a h)) (hS : va_S (fun q : Nat => s.heap.size ≤ q) s.heap H locs) (hl : lv_has ls 4 [(0, .ref b), (1, .ref (ρ 0)), (2, .ref (ρ 96)), (3, .int i)]) (hi : 0 ≤ i.toInt ∧ i.toInt + 6 ≤ (L : Int) ∧ L ≤ 384) (hend : ∀ (H : Heap) (locs : List Loc) (ls : Array Slot) (h : PH), INV h → REL h → va_P (dC, dI) vwCl (toW ρ a h) H → va_D (fun q : Nat => s.heap.size ≤ q) (toW ρ a h) → va_S (fun q : Nat => s.heap.size ≤ q) s.heap H locs → lv_has ls 4 [(0, .ref b), (1, .ref (ρ 0)), (2, .ref (ρ 96)), (3, .int i)] → LG p l e s m b below meth c H locs (F0 m 2146 ls [])) : LG p l e s m b below meth c H locs (F0 m 555 ls []) := by
  obtain ⟨hx, hb, hr, hml, hown, hts, hX, hbl, hlocks, hgv⟩ := C0
  have hT : ∀ w ∈ TB, w.before #[Value.ref b] s = true := fun w h => hts w (TB_lw h)
  have hown : s.vm.findClass RL = some m.cls := hown
  have hA : ∀ q : Nat, s.heap.size ≤ q → (fun q : Nat => s.heap.size ≤ q) q := fun _ h => h
  have hbA : ¬ (fun q : Nat => s.heap.size ≤ q) b := Nat.not_le.mpr hbl
  refine lv_aload_n hx hb dL_law_555 rfl (lv_at hl 1 rfl) ?_
  refine lv_aload_n hx hb dL_law_556 rfl (lv_at hl 0 rfl) ?_
  refine lv_iload_n hx hb dL_law_557 rfl (lv_at hl 3 rfl) ?_
  refine lv_iconst (v := 1) hx hb dL_law_558 (by decide) ?_
  refine lv_iadd hx hb dL_law_559 ?_
  refine va_sld hx hb hX hbl hbA hS (in_s hi (k := 1) (by decide)) dL_law_560 ?_
  refine lv_aload_n hx hb dL_law_561 rfl (lv_at hl 0 rfl) ?_
  refine lv_iload_n hx hb dL_law_562 rfl (lv_at hl 3 rfl) ?_
  refine lv_iconst (v := 2) hx hb dL_law_563 (by decide) ?_
  refine lv_iadd hx hb dL_law_564 ?_
  refine va_sld hx hb hX hbl hbA hS (in_s hi (k := 2) (by decide)) dL_law_565 ?_
  obtain ⟨r1, h1, hq, hM1⟩ := CALL_met (l := l) (dC := dC) (dI := dI) (ρ := ρ) (σ := σ) (a := a) pp_X8_holds (Nat.le_of_ble_eq_true rfl) (k_X8_holds h hI (xs (i + 1).toNatClampNeg) (xs (i + 2).toNatClampNeg))
  obtain ⟨hI1, fr1, -, z1, rfl, -⟩ := hq
  refine c_L (n := 2) (v := 0) (As := [.inl (xs (i + 1).toNatClampNeg), .inl (xs (i + 2).toNatClampNeg)]) (rest := []) ⟨hx, hb, hml, hown, hT⟩ hK hM hA hP hD hS pp_X8_holds hM1 sh_0 mw_219 mw_220 mw_221 mw_168 (by decide +kernel) rfl ⟨Nat.le_of_ble_eq_true rfl, Nat.le_of_ble_eq_true rfl⟩ hl.1 (Nat.le_of_ble_eq_true rfl) rfl dL_law_566 ⟨Nat.le_of_ble_eq_true rfl, Nat.le_of_ble_eq_true rfl⟩ (fun H locs hP hD hS => ?_)
  have hI := hI1
  show LG p l e s m b below meth c H locs (F0 m 569 ls [.int z1])
  refine lv_pop hx hb dL_law_569 rfl ?_
  refine lv_aload_n hx hb dL_law_570 rfl (lv_at hl 2 rfl) ?_
  refine lv_aload_n hx hb dL_law_571 rfl (lv_at hl 0 rfl) ?_
  refine lv_iload_n hx hb dL_law_572 rfl (lv_at hl 3 rfl) ?_
  refine lv_iconst (v := 1) hx hb dL_law_573 (by decide) ?_
  refine lv_iadd hx hb dL_law_574 ?_
  refine va_sld hx hb hX hbl hbA hS (in_s hi (k := 1) (by decide)) dL_law_575 ?_
  refine lv_aload_n hx hb dL_law_576 rfl (lv_at hl 0 rfl) ?_
  refine lv_iload_n hx hb dL_law_577 rfl (lv_at hl 3 rfl) ?_
  refine lv_iconst (v := 2) hx hb dL_law_578 (by decide) ?_
  refine lv_iadd hx hb dL_law_579 ?_
  refine va_sld hx hb hX hbl hbA hS (in_s hi (k := 2) (by decide)) dL_law_580 ?_
  obtain ⟨r2, h2, hq, hM1⟩ := CALL_met (l := l) (dC := dC) (dI := dI) (ρ := ρ) (σ := σ) (a := a) pp_X9_holds (Nat.le_of_ble_eq_true rfl) (k_X9_holds h1 hI (xs (i + 1).toNatClampNeg) (xs (i + 2).toNatClampNeg))
  obtain ⟨hI2, fr2, -, z2, rfl, -⟩ := hq
  refine c_L (n := 2) (v := 96) (As := [.inl (xs (i + 1).toNatClampNeg), .inl (xs (i + 2).toNatClampNeg)]) (rest := []) ⟨hx, hb, hml, hown, hT⟩ hK hM hA hP hD hS pp_X9_holds hM1 sh_96 mw_222 mw_223 mw_224 mw_173 (by decide +kernel) rfl ⟨Nat.le_of_ble_eq_true rfl, Nat.le_of_ble_eq_true rfl⟩ hl.1 (Nat.le_of_ble_eq_true rfl) rfl dL_law_581 ⟨Nat.le_of_ble_eq_true rfl, Nat.le_of_ble_eq_true rfl⟩ (fun H locs hP hD hS => ?_)
  have hI := hI2
  show LG p l e s m b below meth c H locs (F0 m 584 ls [.int z2])
  refine lv_pop hx hb dL_law_584 rfl ?_
  refine lv_goto (tgt := 2146) hx hb dL_law_585 (by decide) ?_
  exact hend _ _ _ _ hI (REL_fr fr1 fr2 (by decide) (by decide) hJ) hP hD hS hl
set_option maxRecDepth 100000 in
set_option maxHeartbeats 4000000 in
theorem lc_8 {p : Program} {l : Launch} {e : Env} {s : State} {m : MethodId} {below : List Frame} {meth : Method} {c : Code} {dC : Nat → ClassId} {dI : Nat → Nat → Nat} {b L : Nat} {xs : Nat → Int32} {H : Heap} {locs : List Loc} {ls : Array Slot} {ρ : Nat → Nat} {σ : Nat → Option Nat} {a : Nat → ClassId} {h : PH} {i : Int32} (C0 : lw_At p s m meth c b L xs) (hK : va_K (dC, dI) vwCl (tysP a) s) (hM : AMB σ (fun q : Nat => s.heap.size ≤ q) s s.heap) (hI : INV h) (hJ : REL h) (hP : va_P (dC, dI) vwCl (toW ρ a h) H) (hD : va_D (fun q : Nat => s.heap.size ≤ q) (toW ρ a h)) (hS : va_S (fun q : Nat => s.heap.size ≤ q) s.heap H locs) (hl : lv_has ls 4 [(0, .ref b), (1, .ref (ρ 0)), (2, .ref (ρ 96)), (3, .int i)]) (hi : 0 ≤ i.toInt ∧ i.toInt + 6 ≤ (L : Int) ∧ L ≤ 384) (hend : ∀ (H : Heap) (locs : List Loc) (ls : Array Slot) (h : PH), INV h → REL h → va_P (dC, dI) vwCl (toW ρ a h) H → va_D (fun q : Nat => s.heap.size ≤ q) (toW ρ a h) → va_S (fun q : Nat => s.heap.size ≤ q) s.heap H locs → lv_has ls 4 [(0, .ref b), (1, .ref (ρ 0)), (2, .ref (ρ 96)), (3, .int i)] → LG p l e s m b below meth c H locs (F0 m 2146 ls [])) : LG p l e s m b below meth c H locs (F0 m 588 ls []) := by
  obtain ⟨hx, hb, hr, hml, hown, hts, hX, hbl, hlocks, hgv⟩ := C0
  have hT : ∀ w ∈ TB, w.before #[Value.ref b] s = true := fun w h => hts w (TB_lw h)
  have hown : s.vm.findClass RL = some m.cls := hown
  have hA : ∀ q : Nat, s.heap.size ≤ q → (fun q : Nat => s.heap.size ≤ q) q := fun _ h => h
  have hbA : ¬ (fun q : Nat => s.heap.size ≤ q) b := Nat.not_le.mpr hbl
  refine lv_aload_n hx hb dL_law_588 rfl (lv_at hl 1 rfl) ?_
  refine lv_aload_n hx hb dL_law_589 rfl (lv_at hl 0 rfl) ?_
  refine lv_iload_n hx hb dL_law_590 rfl (lv_at hl 3 rfl) ?_
  refine lv_iconst (v := 1) hx hb dL_law_591 (by decide) ?_
  refine lv_iadd hx hb dL_law_592 ?_
  refine va_sld hx hb hX hbl hbA hS (in_s hi (k := 1) (by decide)) dL_law_593 ?_
  refine lv_aload_n hx hb dL_law_594 rfl (lv_at hl 0 rfl) ?_
  refine lv_iload_n hx hb dL_law_595 rfl (lv_at hl 3 rfl) ?_
  refine lv_iconst (v := 2) hx hb dL_law_596 (by decide) ?_
  refine lv_iadd hx hb dL_law_597 ?_
  refine va_sld hx hb hX hbl hbA hS (in_s hi (k := 2) (by decide)) dL_law_598 ?_
  obtain ⟨r1, h1, hq, hM1⟩ := CALL_met (l := l) (dC := dC) (dI := dI) (ρ := ρ) (σ := σ) (a := a) pp_X8_held (Nat.le_of_ble_eq_true rfl) (k_X8_held h hI (xs (i + 1).toNatClampNeg) (xs (i + 2).toNatClampNeg))
  obtain ⟨hI1, fr1, -, z1, rfl, -⟩ := hq
  refine c_L (n := 2) (v := 0) (As := [.inl (xs (i + 1).toNatClampNeg), .inl (xs (i + 2).toNatClampNeg)]) (rest := []) ⟨hx, hb, hml, hown, hT⟩ hK hM hA hP hD hS pp_X8_held hM1 sh_0 mw_225 mw_226 mw_227 mw_168 (by decide +kernel) rfl ⟨Nat.le_of_ble_eq_true rfl, Nat.le_of_ble_eq_true rfl⟩ hl.1 (Nat.le_of_ble_eq_true rfl) rfl dL_law_599 ⟨Nat.le_of_ble_eq_true rfl, Nat.le_of_ble_eq_true rfl⟩ (fun H locs hP hD hS => ?_)
  have hI := hI1
  show LG p l e s m b below meth c H locs (F0 m 602 ls [.int z1])
  refine lv_pop hx hb dL_law_602 rfl ?_
  refine lv_aload_n hx hb dL_law_603 rfl (lv_at hl 2 rfl) ?_
  refine lv_aload_n hx hb dL_law_604 rfl (lv_at hl 0 rfl) ?_
  refine lv_iload_n hx hb dL_law_605 rfl (lv_at hl 3 rfl) ?_
  refine lv_iconst (v := 1) hx hb dL_law_606 (by decide) ?_
  refine lv_iadd hx hb dL_law_607 ?_
  refine va_sld hx hb hX hbl hbA hS (in_s hi (k := 1) (by decide)) dL_law_608 ?_
  refine lv_aload_n hx hb dL_law_609 rfl (lv_at hl 0 rfl) ?_
  refine lv_iload_n hx hb dL_law_610 rfl (lv_at hl 3 rfl) ?_
  refine lv_iconst (v := 2) hx hb dL_law_611 (by decide) ?_
  refine lv_iadd hx hb dL_law_612 ?_
  refine va_sld hx hb hX hbl hbA hS (in_s hi (k := 2) (by decide)) dL_law_613 ?_
  obtain ⟨r2, h2, hq, hM1⟩ := CALL_met (l := l) (dC := dC) (dI := dI) (ρ := ρ) (σ := σ) (a := a) pp_X9_held (Nat.le_of_ble_eq_true rfl) (k_X9_held h1 hI (xs (i + 1).toNatClampNeg) (xs (i + 2).toNatClampNeg))
  obtain ⟨hI2, fr2, -, z2, rfl, -⟩ := hq
  refine c_L (n := 2) (v := 96) (As := [.inl (xs (i + 1).toNatClampNeg), .inl (xs (i + 2).toNatClampNeg)]) (rest := []) ⟨hx, hb, hml, hown, hT⟩ hK hM hA hP hD hS pp_X9_held hM1 sh_96 mw_228 mw_229 mw_230 mw_173 (by decide +kernel) rfl ⟨Nat.le_of_ble_eq_true rfl, Nat.le_of_ble_eq_true rfl⟩ hl.1 (Nat.le_of_ble_eq_true rfl) rfl dL_law_614 ⟨Nat.le_of_ble_eq_true rfl, Nat.le_of_ble_eq_true rfl⟩ (fun H locs hP hD hS => ?_)
  have hI := hI2
  show LG p l e s m b below meth c H locs (F0 m 617 ls [.int z2])
  refine lv_pop hx hb dL_law_617 rfl ?_
  refine lv_goto (tgt := 2146) hx hb dL_law_618 (by decide) ?_
  exact hend _ _ _ _ hI (REL_fr fr1 fr2 (by decide) (by decide) hJ) hP hD hS hl
set_option maxRecDepth 100000 in
set_option maxHeartbeats 4000000 in
theorem lc_9 {p : Program} {l : Launch} {e : Env} {s : State} {m : MethodId} {below : List Frame} {meth : Method} {c : Code} {dC : Nat → ClassId} {dI : Nat → Nat → Nat} {b L : Nat} {xs : Nat → Int32} {H : Heap} {locs : List Loc} {ls : Array Slot} {ρ : Nat → Nat} {σ : Nat → Option Nat} {a : Nat → ClassId} {h : PH} {i : Int32} (C0 : lw_At p s m meth c b L xs) (hK : va_K (dC, dI) vwCl (tysP a) s) (hM : AMB σ (fun q : Nat => s.heap.size ≤ q) s s.heap) (hI : INV h) (hJ : REL h) (hP : va_P (dC, dI) vwCl (toW ρ a h) H) (hD : va_D (fun q : Nat => s.heap.size ≤ q) (toW ρ a h)) (hS : va_S (fun q : Nat => s.heap.size ≤ q) s.heap H locs) (hl : lv_has ls 4 [(0, .ref b), (1, .ref (ρ 0)), (2, .ref (ρ 96)), (3, .int i)]) (hi : 0 ≤ i.toInt ∧ i.toInt + 6 ≤ (L : Int) ∧ L ≤ 384) (hend : ∀ (H : Heap) (locs : List Loc) (ls : Array Slot) (h : PH), INV h → REL h → va_P (dC, dI) vwCl (toW ρ a h) H → va_D (fun q : Nat => s.heap.size ≤ q) (toW ρ a h) → va_S (fun q : Nat => s.heap.size ≤ q) s.heap H locs → lv_has ls 4 [(0, .ref b), (1, .ref (ρ 0)), (2, .ref (ρ 96)), (3, .int i)] → LG p l e s m b below meth c H locs (F0 m 2146 ls [])) : LG p l e s m b below meth c H locs (F0 m 621 ls []) := by
  obtain ⟨hx, hb, hr, hml, hown, hts, hX, hbl, hlocks, hgv⟩ := C0
  have hT : ∀ w ∈ TB, w.before #[Value.ref b] s = true := fun w h => hts w (TB_lw h)
  have hown : s.vm.findClass RL = some m.cls := hown
  have hA : ∀ q : Nat, s.heap.size ≤ q → (fun q : Nat => s.heap.size ≤ q) q := fun _ h => h
  have hbA : ¬ (fun q : Nat => s.heap.size ≤ q) b := Nat.not_le.mpr hbl
  refine lv_aload_n hx hb dL_law_621 rfl (lv_at hl 1 rfl) ?_
  refine lv_aload_n hx hb dL_law_622 rfl (lv_at hl 0 rfl) ?_
  refine lv_iload_n hx hb dL_law_623 rfl (lv_at hl 3 rfl) ?_
  refine lv_iconst (v := 1) hx hb dL_law_624 (by decide) ?_
  refine lv_iadd hx hb dL_law_625 ?_
  refine va_sld hx hb hX hbl hbA hS (in_s hi (k := 1) (by decide)) dL_law_626 ?_
  obtain ⟨r1, h1, hq, hM1⟩ := CALL_met (l := l) (dC := dC) (dI := dI) (ρ := ρ) (σ := σ) (a := a) pp_X8_busy (Nat.le_of_ble_eq_true rfl) (k_X8_busy h hI (xs (i + 1).toNatClampNeg))
  obtain ⟨hI1, fr1, -, z1, rfl, -⟩ := hq
  refine c_L (n := 1) (v := 0) (As := [.inl (xs (i + 1).toNatClampNeg)]) (rest := []) ⟨hx, hb, hml, hown, hT⟩ hK hM hA hP hD hS pp_X8_busy hM1 sh_0 mw_231 mw_232 mw_233 mw_168 (by decide +kernel) rfl ⟨Nat.le_of_ble_eq_true rfl, Nat.le_of_ble_eq_true rfl⟩ hl.1 (Nat.le_of_ble_eq_true rfl) rfl dL_law_627 ⟨Nat.le_of_ble_eq_true rfl, Nat.le_of_ble_eq_true rfl⟩ (fun H locs hP hD hS => ?_)
  have hI := hI1
  show LG p l e s m b below meth c H locs (F0 m 630 ls [.int z1])
  refine lv_pop hx hb dL_law_630 rfl ?_
  refine lv_aload_n hx hb dL_law_631 rfl (lv_at hl 2 rfl) ?_
  refine lv_aload_n hx hb dL_law_632 rfl (lv_at hl 0 rfl) ?_
  refine lv_iload_n hx hb dL_law_633 rfl (lv_at hl 3 rfl) ?_
  refine lv_iconst (v := 1) hx hb dL_law_634 (by decide) ?_
  refine lv_iadd hx hb dL_law_635 ?_
  refine va_sld hx hb hX hbl hbA hS (in_s hi (k := 1) (by decide)) dL_law_636 ?_
  obtain ⟨r2, h2, hq, hM1⟩ := CALL_met (l := l) (dC := dC) (dI := dI) (ρ := ρ) (σ := σ) (a := a) pp_X9_busy (Nat.le_of_ble_eq_true rfl) (k_X9_busy h1 hI (xs (i + 1).toNatClampNeg))
  obtain ⟨hI2, fr2, -, z2, rfl, -⟩ := hq
  refine c_L (n := 1) (v := 96) (As := [.inl (xs (i + 1).toNatClampNeg)]) (rest := []) ⟨hx, hb, hml, hown, hT⟩ hK hM hA hP hD hS pp_X9_busy hM1 sh_96 mw_234 mw_235 mw_236 mw_173 (by decide +kernel) rfl ⟨Nat.le_of_ble_eq_true rfl, Nat.le_of_ble_eq_true rfl⟩ hl.1 (Nat.le_of_ble_eq_true rfl) rfl dL_law_637 ⟨Nat.le_of_ble_eq_true rfl, Nat.le_of_ble_eq_true rfl⟩ (fun H locs hP hD hS => ?_)
  have hI := hI2
  show LG p l e s m b below meth c H locs (F0 m 640 ls [.int z2])
  refine lv_pop hx hb dL_law_640 rfl ?_
  refine lv_goto (tgt := 2146) hx hb dL_law_641 (by decide) ?_
  exact hend _ _ _ _ hI (REL_fr fr1 fr2 (by decide) (by decide) hJ) hP hD hS hl
