set_option maxRecDepth 100000 in
set_option maxHeartbeats 4000000 in
theorem lc_0 {p : Program} {l : Launch} {e : Env} {s : State} {m : MethodId} {below : List Frame} {meth : Method} {c : Code} {dC : Nat → ClassId} {dI : Nat → Nat → Nat} {b L : Nat} {xs : Nat → Int32} {H : Heap} {locs : List Loc} {ls : Array Slot} {ρ : Nat → Nat} {σ : Nat → Option Nat} {a : Nat → ClassId} {h : PH} {i : Int32} (C0 : lw_At p s m meth c b L xs) (hK : va_K (dC, dI) vwCl (tysP a) s) (hM : AMB σ (fun q : Nat => s.heap.size ≤ q) s s.heap) (hI : INV h) (hJ : REL h) (hP : va_P (dC, dI) vwCl (toW ρ a h) H) (hD : va_D (fun q : Nat => s.heap.size ≤ q) (toW ρ a h)) (hS : va_S (fun q : Nat => s.heap.size ≤ q) s.heap H locs) (hl : lv_has ls 4 [(0, .ref b), (1, .ref (ρ 0)), (2, .ref (ρ 96)), (3, .int i)]) (hi : 0 ≤ i.toInt ∧ i.toInt + 6 ≤ (L : Int) ∧ L ≤ 384) (hend : ∀ (H : Heap) (locs : List Loc) (ls : Array Slot) (h : PH), INV h → REL h → va_P (dC, dI) vwCl (toW ρ a h) H → va_D (fun q : Nat => s.heap.size ≤ q) (toW ρ a h) → va_S (fun q : Nat => s.heap.size ≤ q) s.heap H locs → lv_has ls 4 [(0, .ref b), (1, .ref (ρ 0)), (2, .ref (ρ 96)), (3, .int i)] → LG p l e s m b below meth c H locs (F0 m 2146 ls [])) : LG p l e s m b below meth c H locs (F0 m 344 ls []) := by
  obtain ⟨hx, hb, hr, hml, hown, hts, hX, hbl, hlocks, hgv⟩ := C0
  have hT : ∀ w ∈ TB, w.before #[Value.ref b] s = true := fun w h => hts w (TB_lw h)
  have hown : s.vm.findClass RL = some m.cls := hown
  have hA : ∀ q : Nat, s.heap.size ≤ q → (fun q : Nat => s.heap.size ≤ q) q := fun _ h => h
  have hbA : ¬ (fun q : Nat => s.heap.size ≤ q) b := Nat.not_le.mpr hbl
  refine lv_aload_n hx hb dL_law_344 rfl (lv_at hl 1 rfl) ?_
  refine lv_aload_n hx hb dL_law_345 rfl (lv_at hl 0 rfl) ?_
  refine lv_iload_n hx hb dL_law_346 rfl (lv_at hl 3 rfl) ?_
  refine lv_iconst (v := 1) hx hb dL_law_347 (by decide) ?_
  refine lv_iadd hx hb dL_law_348 ?_
  refine va_sld hx hb hX hbl hbA hS (in_s hi (k := 1) (by decide)) dL_law_349 ?_
  refine lv_aload_n hx hb dL_law_350 rfl (lv_at hl 0 rfl) ?_
  refine lv_iload_n hx hb dL_law_351 rfl (lv_at hl 3 rfl) ?_
  refine lv_iconst (v := 2) hx hb dL_law_352 (by decide) ?_
  refine lv_iadd hx hb dL_law_353 ?_
  refine va_sld hx hb hX hbl hbA hS (in_s hi (k := 2) (by decide)) dL_law_354 ?_
  refine lv_aload_n hx hb dL_law_355 rfl (lv_at hl 0 rfl) ?_
  refine lv_iload_n hx hb dL_law_356 rfl (lv_at hl 3 rfl) ?_
  refine lv_iconst (v := 3) hx hb dL_law_357 (by decide) ?_
  refine lv_iadd hx hb dL_law_358 ?_
  refine va_sld hx hb hX hbl hbA hS (in_s hi (k := 3) (by decide)) dL_law_359 ?_
  refine lv_aload_n hx hb dL_law_360 rfl (lv_at hl 0 rfl) ?_
  refine lv_iload_n hx hb dL_law_361 rfl (lv_at hl 3 rfl) ?_
  refine lv_iconst (v := 4) hx hb dL_law_362 (by decide) ?_
  refine lv_iadd hx hb dL_law_363 ?_
  refine va_sld hx hb hX hbl hbA hS (in_s hi (k := 4) (by decide)) dL_law_364 ?_
  refine lv_aload_n hx hb dL_law_365 rfl (lv_at hl 0 rfl) ?_
  refine lv_iload_n hx hb dL_law_366 rfl (lv_at hl 3 rfl) ?_
  refine lv_iconst (v := 5) hx hb dL_law_367 (by decide) ?_
  refine lv_iadd hx hb dL_law_368 ?_
  refine va_sld hx hb hX hbl hbA hS (in_s hi (k := 5) (by decide)) dL_law_369 ?_
  obtain ⟨r1, h1, hq, hM1⟩ := CALL_met (l := l) (dC := dC) (dI := dI) (ρ := ρ) (σ := σ) (a := a) pp_X8_feed (Nat.le_of_ble_eq_true rfl) (k_X8_feed h hI (xs (i + 1).toNatClampNeg) (xs (i + 2).toNatClampNeg) (xs (i + 3).toNatClampNeg) (xs (i + 4).toNatClampNeg) (xs (i + 5).toNatClampNeg))
  obtain ⟨hI1, fr1, -, z1, rfl, -⟩ := hq
  refine c_L (n := 5) (v := 0) (As := [.inl (xs (i + 1).toNatClampNeg), .inl (xs (i + 2).toNatClampNeg), .inl (xs (i + 3).toNatClampNeg), .inl (xs (i + 4).toNatClampNeg), .inl (xs (i + 5).toNatClampNeg)]) (rest := []) ⟨hx, hb, hml, hown, hT⟩ hK hM hA hP hD hS pp_X8_feed hM1 sh_0 mw_177 mw_178 mw_179 mw_168 (by decide +kernel) rfl ⟨Nat.le_of_ble_eq_true rfl, Nat.le_of_ble_eq_true rfl⟩ hl.1 (Nat.le_of_ble_eq_true rfl) rfl dL_law_370 ⟨Nat.le_of_ble_eq_true rfl, Nat.le_of_ble_eq_true rfl⟩ (fun H locs hP hD hS => ?_)
  have hI := hI1
  show LG p l e s m b below meth c H locs (F0 m 373 ls [.int z1])
  refine lv_pop hx hb dL_law_373 rfl ?_
  refine lv_aload_n hx hb dL_law_374 rfl (lv_at hl 2 rfl) ?_
  refine lv_aload_n hx hb dL_law_375 rfl (lv_at hl 0 rfl) ?_
  refine lv_iload_n hx hb dL_law_376 rfl (lv_at hl 3 rfl) ?_
  refine lv_iconst (v := 1) hx hb dL_law_377 (by decide) ?_
  refine lv_iadd hx hb dL_law_378 ?_
  refine va_sld hx hb hX hbl hbA hS (in_s hi (k := 1) (by decide)) dL_law_379 ?_
  refine lv_aload_n hx hb dL_law_380 rfl (lv_at hl 0 rfl) ?_
  refine lv_iload_n hx hb dL_law_381 rfl (lv_at hl 3 rfl) ?_
  refine lv_iconst (v := 2) hx hb dL_law_382 (by decide) ?_
  refine lv_iadd hx hb dL_law_383 ?_
  refine va_sld hx hb hX hbl hbA hS (in_s hi (k := 2) (by decide)) dL_law_384 ?_
  refine lv_aload_n hx hb dL_law_385 rfl (lv_at hl 0 rfl) ?_
  refine lv_iload_n hx hb dL_law_386 rfl (lv_at hl 3 rfl) ?_
  refine lv_iconst (v := 3) hx hb dL_law_387 (by decide) ?_
  refine lv_iadd hx hb dL_law_388 ?_
  refine va_sld hx hb hX hbl hbA hS (in_s hi (k := 3) (by decide)) dL_law_389 ?_
  refine lv_aload_n hx hb dL_law_390 rfl (lv_at hl 0 rfl) ?_
  refine lv_iload_n hx hb dL_law_391 rfl (lv_at hl 3 rfl) ?_
  refine lv_iconst (v := 4) hx hb dL_law_392 (by decide) ?_
  refine lv_iadd hx hb dL_law_393 ?_
  refine va_sld hx hb hX hbl hbA hS (in_s hi (k := 4) (by decide)) dL_law_394 ?_
  refine lv_aload_n hx hb dL_law_395 rfl (lv_at hl 0 rfl) ?_
  refine lv_iload_n hx hb dL_law_396 rfl (lv_at hl 3 rfl) ?_
  refine lv_iconst (v := 5) hx hb dL_law_397 (by decide) ?_
  refine lv_iadd hx hb dL_law_398 ?_
  refine va_sld hx hb hX hbl hbA hS (in_s hi (k := 5) (by decide)) dL_law_399 ?_
  obtain ⟨r2, h2, hq, hM1⟩ := CALL_met (l := l) (dC := dC) (dI := dI) (ρ := ρ) (σ := σ) (a := a) pp_X9_feed (Nat.le_of_ble_eq_true rfl) (k_X9_feed h1 hI (xs (i + 1).toNatClampNeg) (xs (i + 2).toNatClampNeg) (xs (i + 3).toNatClampNeg) (xs (i + 4).toNatClampNeg) (xs (i + 5).toNatClampNeg))
  obtain ⟨hI2, fr2, -, z2, rfl, -⟩ := hq
  refine c_L (n := 5) (v := 96) (As := [.inl (xs (i + 1).toNatClampNeg), .inl (xs (i + 2).toNatClampNeg), .inl (xs (i + 3).toNatClampNeg), .inl (xs (i + 4).toNatClampNeg), .inl (xs (i + 5).toNatClampNeg)]) (rest := []) ⟨hx, hb, hml, hown, hT⟩ hK hM hA hP hD hS pp_X9_feed hM1 sh_96 mw_180 mw_181 mw_182 mw_173 (by decide +kernel) rfl ⟨Nat.le_of_ble_eq_true rfl, Nat.le_of_ble_eq_true rfl⟩ hl.1 (Nat.le_of_ble_eq_true rfl) rfl dL_law_400 ⟨Nat.le_of_ble_eq_true rfl, Nat.le_of_ble_eq_true rfl⟩ (fun H locs hP hD hS => ?_)
  have hI := hI2
  show LG p l e s m b below meth c H locs (F0 m 403 ls [.int z2])
  refine lv_pop hx hb dL_law_403 rfl ?_
  refine lv_goto (tgt := 2146) hx hb dL_law_404 (by decide) ?_
  exact hend _ _ _ _ hI (REL_fr fr1 fr2 (by decide) (by decide) hJ) hP hD hS hl
set_option maxRecDepth 100000 in
set_option maxHeartbeats 4000000 in
theorem lc_1 {p : Program} {l : Launch} {e : Env} {s : State} {m : MethodId} {below : List Frame} {meth : Method} {c : Code} {dC : Nat → ClassId} {dI : Nat → Nat → Nat} {b L : Nat} {xs : Nat → Int32} {H : Heap} {locs : List Loc} {ls : Array Slot} {ρ : Nat → Nat} {σ : Nat → Option Nat} {a : Nat → ClassId} {h : PH} {i : Int32} (C0 : lw_At p s m meth c b L xs) (hK : va_K (dC, dI) vwCl (tysP a) s) (hM : AMB σ (fun q : Nat => s.heap.size ≤ q) s s.heap) (hI : INV h) (hJ : REL h) (hP : va_P (dC, dI) vwCl (toW ρ a h) H) (hD : va_D (fun q : Nat => s.heap.size ≤ q) (toW ρ a h)) (hS : va_S (fun q : Nat => s.heap.size ≤ q) s.heap H locs) (hl : lv_has ls 4 [(0, .ref b), (1, .ref (ρ 0)), (2, .ref (ρ 96)), (3, .int i)]) (hi : 0 ≤ i.toInt ∧ i.toInt + 6 ≤ (L : Int) ∧ L ≤ 384) (hend : ∀ (H : Heap) (locs : List Loc) (ls : Array Slot) (h : PH), INV h → REL h → va_P (dC, dI) vwCl (toW ρ a h) H → va_D (fun q : Nat => s.heap.size ≤ q) (toW ρ a h) → va_S (fun q : Nat => s.heap.size ≤ q) s.heap H locs → lv_has ls 4 [(0, .ref b), (1, .ref (ρ 0)), (2, .ref (ρ 96)), (3, .int i)] → LG p l e s m b below meth c H locs (F0 m 2146 ls [])) : LG p l e s m b below meth c H locs (F0 m 407 ls []) := by
  obtain ⟨hx, hb, hr, hml, hown, hts, hX, hbl, hlocks, hgv⟩ := C0
  have hT : ∀ w ∈ TB, w.before #[Value.ref b] s = true := fun w h => hts w (TB_lw h)
  have hown : s.vm.findClass RL = some m.cls := hown
  have hA : ∀ q : Nat, s.heap.size ≤ q → (fun q : Nat => s.heap.size ≤ q) q := fun _ h => h
  have hbA : ¬ (fun q : Nat => s.heap.size ≤ q) b := Nat.not_le.mpr hbl
  refine lv_aload_n hx hb dL_law_407 rfl (lv_at hl 1 rfl) ?_
  refine lv_aload_n hx hb dL_law_408 rfl (lv_at hl 0 rfl) ?_
  refine lv_iload_n hx hb dL_law_409 rfl (lv_at hl 3 rfl) ?_
  refine lv_iconst (v := 1) hx hb dL_law_410 (by decide) ?_
  refine lv_iadd hx hb dL_law_411 ?_
  refine va_sld hx hb hX hbl hbA hS (in_s hi (k := 1) (by decide)) dL_law_412 ?_
  obtain ⟨r1, h1, hq, hM1⟩ := CALL_met (l := l) (dC := dC) (dI := dI) (ρ := ρ) (σ := σ) (a := a) pp_X8_end (Nat.le_of_ble_eq_true rfl) (k_X8_end h hI (xs (i + 1).toNatClampNeg))
  obtain ⟨hI1, fr1, -, z1, rfl, -⟩ := hq
  refine c_L (n := 1) (v := 0) (As := [.inl (xs (i + 1).toNatClampNeg)]) (rest := []) ⟨hx, hb, hml, hown, hT⟩ hK hM hA hP hD hS pp_X8_end hM1 sh_0 mw_183 mw_184 mw_185 mw_168 (by decide +kernel) rfl ⟨Nat.le_of_ble_eq_true rfl, Nat.le_of_ble_eq_true rfl⟩ hl.1 (Nat.le_of_ble_eq_true rfl) rfl dL_law_413 ⟨Nat.le_of_ble_eq_true rfl, Nat.le_of_ble_eq_true rfl⟩ (fun H locs hP hD hS => ?_)
  have hI := hI1
  show LG p l e s m b below meth c H locs (F0 m 416 ls [.int z1])
  refine lv_pop hx hb dL_law_416 rfl ?_
  refine lv_aload_n hx hb dL_law_417 rfl (lv_at hl 2 rfl) ?_
  refine lv_aload_n hx hb dL_law_418 rfl (lv_at hl 0 rfl) ?_
  refine lv_iload_n hx hb dL_law_419 rfl (lv_at hl 3 rfl) ?_
  refine lv_iconst (v := 1) hx hb dL_law_420 (by decide) ?_
  refine lv_iadd hx hb dL_law_421 ?_
  refine va_sld hx hb hX hbl hbA hS (in_s hi (k := 1) (by decide)) dL_law_422 ?_
  obtain ⟨r2, h2, hq, hM1⟩ := CALL_met (l := l) (dC := dC) (dI := dI) (ρ := ρ) (σ := σ) (a := a) pp_X9_end (Nat.le_of_ble_eq_true rfl) (k_X9_end h1 hI (xs (i + 1).toNatClampNeg))
  obtain ⟨hI2, fr2, -, z2, rfl, -⟩ := hq
  refine c_L (n := 1) (v := 96) (As := [.inl (xs (i + 1).toNatClampNeg)]) (rest := []) ⟨hx, hb, hml, hown, hT⟩ hK hM hA hP hD hS pp_X9_end hM1 sh_96 mw_186 mw_187 mw_188 mw_173 (by decide +kernel) rfl ⟨Nat.le_of_ble_eq_true rfl, Nat.le_of_ble_eq_true rfl⟩ hl.1 (Nat.le_of_ble_eq_true rfl) rfl dL_law_423 ⟨Nat.le_of_ble_eq_true rfl, Nat.le_of_ble_eq_true rfl⟩ (fun H locs hP hD hS => ?_)
  have hI := hI2
  show LG p l e s m b below meth c H locs (F0 m 426 ls [.int z2])
  refine lv_pop hx hb dL_law_426 rfl ?_
  refine lv_goto (tgt := 2146) hx hb dL_law_427 (by decide) ?_
  exact hend _ _ _ _ hI (REL_fr fr1 fr2 (by decide) (by decide) hJ) hP hD hS hl
set_option maxRecDepth 100000 in
set_option maxHeartbeats 4000000 in
theorem lc_2 {p : Program} {l : Launch} {e : Env} {s : State} {m : MethodId} {below : List Frame} {meth : Method} {c : Code} {dC : Nat → ClassId} {dI : Nat → Nat → Nat} {b L : Nat} {xs : Nat → Int32} {H : Heap} {locs : List Loc} {ls : Array Slot} {ρ : Nat → Nat} {σ : Nat → Option Nat} {a : Nat → ClassId} {h : PH} {i : Int32} (C0 : lw_At p s m meth c b L xs) (hK : va_K (dC, dI) vwCl (tysP a) s) (hM : AMB σ (fun q : Nat => s.heap.size ≤ q) s s.heap) (hI : INV h) (hJ : REL h) (hP : va_P (dC, dI) vwCl (toW ρ a h) H) (hD : va_D (fun q : Nat => s.heap.size ≤ q) (toW ρ a h)) (hS : va_S (fun q : Nat => s.heap.size ≤ q) s.heap H locs) (hl : lv_has ls 4 [(0, .ref b), (1, .ref (ρ 0)), (2, .ref (ρ 96)), (3, .int i)]) (hi : 0 ≤ i.toInt ∧ i.toInt + 6 ≤ (L : Int) ∧ L ≤ 384) (hend : ∀ (H : Heap) (locs : List Loc) (ls : Array Slot) (h : PH), INV h → REL h → va_P (dC, dI) vwCl (toW ρ a h) H → va_D (fun q : Nat => s.heap.size ≤ q) (toW ρ a h) → va_S (fun q : Nat => s.heap.size ≤ q) s.heap H locs → lv_has ls 4 [(0, .ref b), (1, .ref (ρ 0)), (2, .ref (ρ 96)), (3, .int i)] → LG p l e s m b below meth c H locs (F0 m 2146 ls [])) : LG p l e s m b below meth c H locs (F0 m 430 ls []) := by
  obtain ⟨hx, hb, hr, hml, hown, hts, hX, hbl, hlocks, hgv⟩ := C0
  have hT : ∀ w ∈ TB, w.before #[Value.ref b] s = true := fun w h => hts w (TB_lw h)
  have hown : s.vm.findClass RL = some m.cls := hown
  have hA : ∀ q : Nat, s.heap.size ≤ q → (fun q : Nat => s.heap.size ≤ q) q := fun _ h => h
  have hbA : ¬ (fun q : Nat => s.heap.size ≤ q) b := Nat.not_le.mpr hbl
  refine lv_aload_n hx hb dL_law_430 rfl (lv_at hl 1 rfl) ?_
  obtain ⟨r1, h1, hq, hM1⟩ := CALL_met (l := l) (dC := dC) (dI := dI) (ρ := ρ) (σ := σ) (a := a) pp_X8_brigade (Nat.le_of_ble_eq_true rfl) (k_X8_brigade h hI )
  obtain ⟨hI1, fr1, -, z1, rfl, -⟩ := hq
  refine c_L (n := 0) (v := 0) (As := []) (rest := []) ⟨hx, hb, hml, hown, hT⟩ hK hM hA hP hD hS pp_X8_brigade hM1 sh_0 mw_189 mw_190 mw_191 mw_168 (by decide +kernel) rfl ⟨Nat.le_of_ble_eq_true rfl, Nat.le_of_ble_eq_true rfl⟩ hl.1 (Nat.le_of_ble_eq_true rfl) rfl dL_law_431 ⟨Nat.le_of_ble_eq_true rfl, Nat.le_of_ble_eq_true rfl⟩ (fun H locs hP hD hS => ?_)
  have hI := hI1
  show LG p l e s m b below meth c H locs (F0 m 434 ls [.int z1])
  refine lv_pop hx hb dL_law_434 rfl ?_
  refine lv_aload_n hx hb dL_law_435 rfl (lv_at hl 2 rfl) ?_
  obtain ⟨r2, h2, hq, hM1⟩ := CALL_met (l := l) (dC := dC) (dI := dI) (ρ := ρ) (σ := σ) (a := a) pp_X9_brigade (Nat.le_of_ble_eq_true rfl) (k_X9_brigade h1 hI )
  obtain ⟨hI2, fr2, -, z2, rfl, -⟩ := hq
  refine c_L (n := 0) (v := 96) (As := []) (rest := []) ⟨hx, hb, hml, hown, hT⟩ hK hM hA hP hD hS pp_X9_brigade hM1 sh_96 mw_192 mw_193 mw_194 mw_173 (by decide +kernel) rfl ⟨Nat.le_of_ble_eq_true rfl, Nat.le_of_ble_eq_true rfl⟩ hl.1 (Nat.le_of_ble_eq_true rfl) rfl dL_law_436 ⟨Nat.le_of_ble_eq_true rfl, Nat.le_of_ble_eq_true rfl⟩ (fun H locs hP hD hS => ?_)
  have hI := hI2
  show LG p l e s m b below meth c H locs (F0 m 439 ls [.int z2])
  refine lv_pop hx hb dL_law_439 rfl ?_
  refine lv_goto (tgt := 2146) hx hb dL_law_440 (by decide) ?_
  exact hend _ _ _ _ hI (REL_fr fr1 fr2 (by decide) (by decide) hJ) hP hD hS hl
set_option maxRecDepth 100000 in
set_option maxHeartbeats 4000000 in
theorem lc_3 {p : Program} {l : Launch} {e : Env} {s : State} {m : MethodId} {below : List Frame} {meth : Method} {c : Code} {dC : Nat → ClassId} {dI : Nat → Nat → Nat} {b L : Nat} {xs : Nat → Int32} {H : Heap} {locs : List Loc} {ls : Array Slot} {ρ : Nat → Nat} {σ : Nat → Option Nat} {a : Nat → ClassId} {h : PH} {i : Int32} (C0 : lw_At p s m meth c b L xs) (hK : va_K (dC, dI) vwCl (tysP a) s) (hM : AMB σ (fun q : Nat => s.heap.size ≤ q) s s.heap) (hI : INV h) (hJ : REL h) (hP : va_P (dC, dI) vwCl (toW ρ a h) H) (hD : va_D (fun q : Nat => s.heap.size ≤ q) (toW ρ a h)) (hS : va_S (fun q : Nat => s.heap.size ≤ q) s.heap H locs) (hl : lv_has ls 4 [(0, .ref b), (1, .ref (ρ 0)), (2, .ref (ρ 96)), (3, .int i)]) (hi : 0 ≤ i.toInt ∧ i.toInt + 6 ≤ (L : Int) ∧ L ≤ 384) (hend : ∀ (H : Heap) (locs : List Loc) (ls : Array Slot) (h : PH), INV h → REL h → va_P (dC, dI) vwCl (toW ρ a h) H → va_D (fun q : Nat => s.heap.size ≤ q) (toW ρ a h) → va_S (fun q : Nat => s.heap.size ≤ q) s.heap H locs → lv_has ls 4 [(0, .ref b), (1, .ref (ρ 0)), (2, .ref (ρ 96)), (3, .int i)] → LG p l e s m b below meth c H locs (F0 m 2146 ls [])) : LG p l e s m b below meth c H locs (F0 m 443 ls []) := by
  obtain ⟨hx, hb, hr, hml, hown, hts, hX, hbl, hlocks, hgv⟩ := C0
  have hT : ∀ w ∈ TB, w.before #[Value.ref b] s = true := fun w h => hts w (TB_lw h)
  have hown : s.vm.findClass RL = some m.cls := hown
  have hA : ∀ q : Nat, s.heap.size ≤ q → (fun q : Nat => s.heap.size ≤ q) q := fun _ h => h
  have hbA : ¬ (fun q : Nat => s.heap.size ≤ q) b := Nat.not_le.mpr hbl
  refine lv_aload_n hx hb dL_law_443 rfl (lv_at hl 1 rfl) ?_
  refine lv_aload_n hx hb dL_law_444 rfl (lv_at hl 0 rfl) ?_
  refine lv_iload_n hx hb dL_law_445 rfl (lv_at hl 3 rfl) ?_
  refine lv_iconst (v := 1) hx hb dL_law_446 (by decide) ?_
  refine lv_iadd hx hb dL_law_447 ?_
  refine va_sld hx hb hX hbl hbA hS (in_s hi (k := 1) (by decide)) dL_law_448 ?_
  obtain ⟨r1, h1, hq, hM1⟩ := CALL_met (l := l) (dC := dC) (dI := dI) (ρ := ρ) (σ := σ) (a := a) pp_X8_fault (Nat.le_of_ble_eq_true rfl) (k_X8_fault h hI (xs (i + 1).toNatClampNeg))
  obtain ⟨rfl, z1, rfl, -⟩ := hq
  refine c_L (n := 1) (v := 0) (As := [.inl (xs (i + 1).toNatClampNeg)]) (rest := []) ⟨hx, hb, hml, hown, hT⟩ hK hM hA hP hD hS pp_X8_fault hM1 sh_0 mw_195 mw_196 mw_197 mw_168 (by decide +kernel) rfl ⟨Nat.le_of_ble_eq_true rfl, Nat.le_of_ble_eq_true rfl⟩ hl.1 (Nat.le_of_ble_eq_true rfl) rfl dL_law_449 ⟨Nat.le_of_ble_eq_true rfl, Nat.le_of_ble_eq_true rfl⟩ (fun H locs hP hD hS => ?_)
  show LG p l e s m b below meth c H locs (F0 m 452 ls [.int z1])
  refine lv_pop hx hb dL_law_452 rfl ?_
  refine lv_aload_n hx hb dL_law_453 rfl (lv_at hl 2 rfl) ?_
  refine lv_aload_n hx hb dL_law_454 rfl (lv_at hl 0 rfl) ?_
  refine lv_iload_n hx hb dL_law_455 rfl (lv_at hl 3 rfl) ?_
  refine lv_iconst (v := 1) hx hb dL_law_456 (by decide) ?_
  refine lv_iadd hx hb dL_law_457 ?_
  refine va_sld hx hb hX hbl hbA hS (in_s hi (k := 1) (by decide)) dL_law_458 ?_
  obtain ⟨r2, h2, hq, hM1⟩ := CALL_met (l := l) (dC := dC) (dI := dI) (ρ := ρ) (σ := σ) (a := a) pp_X9_fault (Nat.le_of_ble_eq_true rfl) (k_X9_fault h hI (xs (i + 1).toNatClampNeg))
  obtain ⟨rfl, z2, rfl, -⟩ := hq
  refine c_L (n := 1) (v := 96) (As := [.inl (xs (i + 1).toNatClampNeg)]) (rest := []) ⟨hx, hb, hml, hown, hT⟩ hK hM hA hP hD hS pp_X9_fault hM1 sh_96 mw_198 mw_199 mw_200 mw_173 (by decide +kernel) rfl ⟨Nat.le_of_ble_eq_true rfl, Nat.le_of_ble_eq_true rfl⟩ hl.1 (Nat.le_of_ble_eq_true rfl) rfl dL_law_459 ⟨Nat.le_of_ble_eq_true rfl, Nat.le_of_ble_eq_true rfl⟩ (fun H locs hP hD hS => ?_)
  show LG p l e s m b below meth c H locs (F0 m 462 ls [.int z2])
  refine lv_pop hx hb dL_law_462 rfl ?_
  refine lv_goto (tgt := 2146) hx hb dL_law_463 (by decide) ?_
  exact hend _ _ _ _ hI (REL_fr (FR.rf [] h) (FR.rf [] h) (by decide) (by decide) hJ) hP hD hS hl
set_option maxRecDepth 100000 in
set_option maxHeartbeats 4000000 in
theorem lc_4 {p : Program} {l : Launch} {e : Env} {s : State} {m : MethodId} {below : List Frame} {meth : Method} {c : Code} {dC : Nat → ClassId} {dI : Nat → Nat → Nat} {b L : Nat} {xs : Nat → Int32} {H : Heap} {locs : List Loc} {ls : Array Slot} {ρ : Nat → Nat} {σ : Nat → Option Nat} {a : Nat → ClassId} {h : PH} {i : Int32} (C0 : lw_At p s m meth c b L xs) (hK : va_K (dC, dI) vwCl (tysP a) s) (hM : AMB σ (fun q : Nat => s.heap.size ≤ q) s s.heap) (hI : INV h) (hJ : REL h) (hP : va_P (dC, dI) vwCl (toW ρ a h) H) (hD : va_D (fun q : Nat => s.heap.size ≤ q) (toW ρ a h)) (hS : va_S (fun q : Nat => s.heap.size ≤ q) s.heap H locs) (hl : lv_has ls 4 [(0, .ref b), (1, .ref (ρ 0)), (2, .ref (ρ 96)), (3, .int i)]) (hi : 0 ≤ i.toInt ∧ i.toInt + 6 ≤ (L : Int) ∧ L ≤ 384) (hend : ∀ (H : Heap) (locs : List Loc) (ls : Array Slot) (h : PH), INV h → REL h → va_P (dC, dI) vwCl (toW ρ a h) H → va_D (fun q : Nat => s.heap.size ≤ q) (toW ρ a h) → va_S (fun q : Nat => s.heap.size ≤ q) s.heap H locs → lv_has ls 4 [(0, .ref b), (1, .ref (ρ 0)), (2, .ref (ρ 96)), (3, .int i)] → LG p l e s m b below meth c H locs (F0 m 2146 ls [])) : LG p l e s m b below meth c H locs (F0 m 466 ls []) := by
  obtain ⟨hx, hb, hr, hml, hown, hts, hX, hbl, hlocks, hgv⟩ := C0
  have hT : ∀ w ∈ TB, w.before #[Value.ref b] s = true := fun w h => hts w (TB_lw h)
  have hown : s.vm.findClass RL = some m.cls := hown
  have hA : ∀ q : Nat, s.heap.size ≤ q → (fun q : Nat => s.heap.size ≤ q) q := fun _ h => h
  have hbA : ¬ (fun q : Nat => s.heap.size ≤ q) b := Nat.not_le.mpr hbl
  refine lv_aload_n hx hb dL_law_466 rfl (lv_at hl 1 rfl) ?_
  refine lv_aload_n hx hb dL_law_467 rfl (lv_at hl 0 rfl) ?_
  refine lv_iload_n hx hb dL_law_468 rfl (lv_at hl 3 rfl) ?_
  refine lv_iconst (v := 1) hx hb dL_law_469 (by decide) ?_
  refine lv_iadd hx hb dL_law_470 ?_
  refine va_sld hx hb hX hbl hbA hS (in_s hi (k := 1) (by decide)) dL_law_471 ?_
  refine lv_aload_n hx hb dL_law_472 rfl (lv_at hl 0 rfl) ?_
  refine lv_iload_n hx hb dL_law_473 rfl (lv_at hl 3 rfl) ?_
  refine lv_iconst (v := 2) hx hb dL_law_474 (by decide) ?_
  refine lv_iadd hx hb dL_law_475 ?_
  refine va_sld hx hb hX hbl hbA hS (in_s hi (k := 2) (by decide)) dL_law_476 ?_
  obtain ⟨r1, h1, hq, hM1⟩ := CALL_met (l := l) (dC := dC) (dI := dI) (ρ := ρ) (σ := σ) (a := a) pp_X8_hand (Nat.le_of_ble_eq_true rfl) (k_X8_hand h hI (xs (i + 1).toNatClampNeg) (xs (i + 2).toNatClampNeg))
  obtain ⟨rfl, z1, rfl, -⟩ := hq
  refine c_L (n := 2) (v := 0) (As := [.inl (xs (i + 1).toNatClampNeg), .inl (xs (i + 2).toNatClampNeg)]) (rest := []) ⟨hx, hb, hml, hown, hT⟩ hK hM hA hP hD hS pp_X8_hand hM1 sh_0 mw_201 mw_202 mw_203 mw_168 (by decide +kernel) rfl ⟨Nat.le_of_ble_eq_true rfl, Nat.le_of_ble_eq_true rfl⟩ hl.1 (Nat.le_of_ble_eq_true rfl) rfl dL_law_477 ⟨Nat.le_of_ble_eq_true rfl, Nat.le_of_ble_eq_true rfl⟩ (fun H locs hP hD hS => ?_)
  show LG p l e s m b below meth c H locs (F0 m 480 ls [.int z1])
  refine lv_pop hx hb dL_law_480 rfl ?_
  refine lv_aload_n hx hb dL_law_481 rfl (lv_at hl 2 rfl) ?_
  refine lv_aload_n hx hb dL_law_482 rfl (lv_at hl 0 rfl) ?_
  refine lv_iload_n hx hb dL_law_483 rfl (lv_at hl 3 rfl) ?_
  refine lv_iconst (v := 1) hx hb dL_law_484 (by decide) ?_
  refine lv_iadd hx hb dL_law_485 ?_
  refine va_sld hx hb hX hbl hbA hS (in_s hi (k := 1) (by decide)) dL_law_486 ?_
  refine lv_aload_n hx hb dL_law_487 rfl (lv_at hl 0 rfl) ?_
  refine lv_iload_n hx hb dL_law_488 rfl (lv_at hl 3 rfl) ?_
  refine lv_iconst (v := 2) hx hb dL_law_489 (by decide) ?_
  refine lv_iadd hx hb dL_law_490 ?_
  refine va_sld hx hb hX hbl hbA hS (in_s hi (k := 2) (by decide)) dL_law_491 ?_
  obtain ⟨r2, h2, hq, hM1⟩ := CALL_met (l := l) (dC := dC) (dI := dI) (ρ := ρ) (σ := σ) (a := a) pp_X9_hand (Nat.le_of_ble_eq_true rfl) (k_X9_hand h hI (xs (i + 1).toNatClampNeg) (xs (i + 2).toNatClampNeg))
  obtain ⟨hI2, fr2, -, z2, rfl, -⟩ := hq
  refine c_L (n := 2) (v := 96) (As := [.inl (xs (i + 1).toNatClampNeg), .inl (xs (i + 2).toNatClampNeg)]) (rest := []) ⟨hx, hb, hml, hown, hT⟩ hK hM hA hP hD hS pp_X9_hand hM1 sh_96 mw_204 mw_205 mw_206 mw_173 (by decide +kernel) rfl ⟨Nat.le_of_ble_eq_true rfl, Nat.le_of_ble_eq_true rfl⟩ hl.1 (Nat.le_of_ble_eq_true rfl) rfl dL_law_492 ⟨Nat.le_of_ble_eq_true rfl, Nat.le_of_ble_eq_true rfl⟩ (fun H locs hP hD hS => ?_)
  have hI := hI2
  show LG p l e s m b below meth c H locs (F0 m 495 ls [.int z2])
  refine lv_pop hx hb dL_law_495 rfl ?_
  refine lv_goto (tgt := 2146) hx hb dL_law_496 (by decide) ?_
  exact hend _ _ _ _ hI (REL_fr (FR.rf [] h) fr2 (by decide) (by decide) hJ) hP hD hS hl
set_option maxRecDepth 100000 in
set_option maxHeartbeats 4000000 in
theorem lc_5 {p : Program} {l : Launch} {e : Env} {s : State} {m : MethodId} {below : List Frame} {meth : Method} {c : Code} {dC : Nat → ClassId} {dI : Nat → Nat → Nat} {b L : Nat} {xs : Nat → Int32} {H : Heap} {locs : List Loc} {ls : Array Slot} {ρ : Nat → Nat} {σ : Nat → Option Nat} {a : Nat → ClassId} {h : PH} {i : Int32} (C0 : lw_At p s m meth c b L xs) (hK : va_K (dC, dI) vwCl (tysP a) s) (hM : AMB σ (fun q : Nat => s.heap.size ≤ q) s s.heap) (hI : INV h) (hJ : REL h) (hP : va_P (dC, dI) vwCl (toW ρ a h) H) (hD : va_D (fun q : Nat => s.heap.size ≤ q) (toW ρ a h)) (hS : va_S (fun q : Nat => s.heap.size ≤ q) s.heap H locs) (hl : lv_has ls 4 [(0, .ref b), (1, .ref (ρ 0)), (2, .ref (ρ 96)), (3, .int i)]) (hi : 0 ≤ i.toInt ∧ i.toInt + 6 ≤ (L : Int) ∧ L ≤ 384) (hend : ∀ (H : Heap) (locs : List Loc) (ls : Array Slot) (h : PH), INV h → REL h → va_P (dC, dI) vwCl (toW ρ a h) H → va_D (fun q : Nat => s.heap.size ≤ q) (toW ρ a h) → va_S (fun q : Nat => s.heap.size ≤ q) s.heap H locs → lv_has ls 4 [(0, .ref b), (1, .ref (ρ 0)), (2, .ref (ρ 96)), (3, .int i)] → LG p l e s m b below meth c H locs (F0 m 2146 ls [])) : LG p l e s m b below meth c H locs (F0 m 499 ls []) := by
  obtain ⟨hx, hb, hr, hml, hown, hts, hX, hbl, hlocks, hgv⟩ := C0
  have hT : ∀ w ∈ TB, w.before #[Value.ref b] s = true := fun w h => hts w (TB_lw h)
  have hown : s.vm.findClass RL = some m.cls := hown
  have hA : ∀ q : Nat, s.heap.size ≤ q → (fun q : Nat => s.heap.size ≤ q) q := fun _ h => h
  have hbA : ¬ (fun q : Nat => s.heap.size ≤ q) b := Nat.not_le.mpr hbl
  refine lv_aload_n hx hb dL_law_499 rfl (lv_at hl 1 rfl) ?_
  refine lv_aload_n hx hb dL_law_500 rfl (lv_at hl 0 rfl) ?_
  refine lv_iload_n hx hb dL_law_501 rfl (lv_at hl 3 rfl) ?_
  refine lv_iconst (v := 1) hx hb dL_law_502 (by decide) ?_
  refine lv_iadd hx hb dL_law_503 ?_
  refine va_sld hx hb hX hbl hbA hS (in_s hi (k := 1) (by decide)) dL_law_504 ?_
  refine lv_aload_n hx hb dL_law_505 rfl (lv_at hl 0 rfl) ?_
  refine lv_iload_n hx hb dL_law_506 rfl (lv_at hl 3 rfl) ?_
  refine lv_iconst (v := 2) hx hb dL_law_507 (by decide) ?_
  refine lv_iadd hx hb dL_law_508 ?_
  refine va_sld hx hb hX hbl hbA hS (in_s hi (k := 2) (by decide)) dL_law_509 ?_
  obtain ⟨r1, h1, hq, hM1⟩ := CALL_met (l := l) (dC := dC) (dI := dI) (ρ := ρ) (σ := σ) (a := a) pp_X8_pair (Nat.le_of_ble_eq_true rfl) (k_X8_pair h hI (xs (i + 1).toNatClampNeg) (xs (i + 2).toNatClampNeg))
  obtain ⟨rfl, z1, rfl, -⟩ := hq
  refine c_L (n := 2) (v := 0) (As := [.inl (xs (i + 1).toNatClampNeg), .inl (xs (i + 2).toNatClampNeg)]) (rest := []) ⟨hx, hb, hml, hown, hT⟩ hK hM hA hP hD hS pp_X8_pair hM1 sh_0 mw_207 mw_208 mw_209 mw_168 (by decide +kernel) rfl ⟨Nat.le_of_ble_eq_true rfl, Nat.le_of_ble_eq_true rfl⟩ hl.1 (Nat.le_of_ble_eq_true rfl) rfl dL_law_510 ⟨Nat.le_of_ble_eq_true rfl, Nat.le_of_ble_eq_true rfl⟩ (fun H locs hP hD hS => ?_)
  show LG p l e s m b below meth c H locs (F0 m 513 ls [.int z1])
  refine lv_pop hx hb dL_law_513 rfl ?_
  refine lv_aload_n hx hb dL_law_514 rfl (lv_at hl 2 rfl) ?_
  refine lv_aload_n hx hb dL_law_515 rfl (lv_at hl 0 rfl) ?_
  refine lv_iload_n hx hb dL_law_516 rfl (lv_at hl 3 rfl) ?_
  refine lv_iconst (v := 1) hx hb dL_law_517 (by decide) ?_
  refine lv_iadd hx hb dL_law_518 ?_
  refine va_sld hx hb hX hbl hbA hS (in_s hi (k := 1) (by decide)) dL_law_519 ?_
  refine lv_aload_n hx hb dL_law_520 rfl (lv_at hl 0 rfl) ?_
  refine lv_iload_n hx hb dL_law_521 rfl (lv_at hl 3 rfl) ?_
  refine lv_iconst (v := 2) hx hb dL_law_522 (by decide) ?_
  refine lv_iadd hx hb dL_law_523 ?_
  refine va_sld hx hb hX hbl hbA hS (in_s hi (k := 2) (by decide)) dL_law_524 ?_
  obtain ⟨r2, h2, hq, hM1⟩ := CALL_met (l := l) (dC := dC) (dI := dI) (ρ := ρ) (σ := σ) (a := a) pp_X9_pair (Nat.le_of_ble_eq_true rfl) (k_X9_pair h hI (xs (i + 1).toNatClampNeg) (xs (i + 2).toNatClampNeg))
  obtain ⟨rfl, z2, rfl, -⟩ := hq
  refine c_L (n := 2) (v := 96) (As := [.inl (xs (i + 1).toNatClampNeg), .inl (xs (i + 2).toNatClampNeg)]) (rest := []) ⟨hx, hb, hml, hown, hT⟩ hK hM hA hP hD hS pp_X9_pair hM1 sh_96 mw_210 mw_211 mw_212 mw_173 (by decide +kernel) rfl ⟨Nat.le_of_ble_eq_true rfl, Nat.le_of_ble_eq_true rfl⟩ hl.1 (Nat.le_of_ble_eq_true rfl) rfl dL_law_525 ⟨Nat.le_of_ble_eq_true rfl, Nat.le_of_ble_eq_true rfl⟩ (fun H locs hP hD hS => ?_)
  show LG p l e s m b below meth c H locs (F0 m 528 ls [.int z2])
  refine lv_pop hx hb dL_law_528 rfl ?_
  refine lv_goto (tgt := 2146) hx hb dL_law_529 (by decide) ?_
  exact hend _ _ _ _ hI (REL_fr (FR.rf [] h) (FR.rf [] h) (by decide) (by decide) hJ) hP hD hS hl
set_option maxRecDepth 100000 in
set_option maxHeartbeats 4000000 in
theorem lc_6 {p : Program} {l : Launch} {e : Env} {s : State} {m : MethodId} {below : List Frame} {meth : Method} {c : Code} {dC : Nat → ClassId} {dI : Nat → Nat → Nat} {b L : Nat} {xs : Nat → Int32} {H : Heap} {locs : List Loc} {ls : Array Slot} {ρ : Nat → Nat} {σ : Nat → Option Nat} {a : Nat → ClassId} {h : PH} {i : Int32} (C0 : lw_At p s m meth c b L xs) (hK : va_K (dC, dI) vwCl (tysP a) s) (hM : AMB σ (fun q : Nat => s.heap.size ≤ q) s s.heap) (hI : INV h) (hJ : REL h) (hP : va_P (dC, dI) vwCl (toW ρ a h) H) (hD : va_D (fun q : Nat => s.heap.size ≤ q) (toW ρ a h)) (hS : va_S (fun q : Nat => s.heap.size ≤ q) s.heap H locs) (hl : lv_has ls 4 [(0, .ref b), (1, .ref (ρ 0)), (2, .ref (ρ 96)), (3, .int i)]) (hi : 0 ≤ i.toInt ∧ i.toInt + 6 ≤ (L : Int) ∧ L ≤ 384) (hend : ∀ (H : Heap) (locs : List Loc) (ls : Array Slot) (h : PH), INV h → REL h → va_P (dC, dI) vwCl (toW ρ a h) H → va_D (fun q : Nat => s.heap.size ≤ q) (toW ρ a h) → va_S (fun q : Nat => s.heap.size ≤ q) s.heap H locs → lv_has ls 4 [(0, .ref b), (1, .ref (ρ 0)), (2, .ref (ρ 96)), (3, .int i)] → LG p l e s m b below meth c H locs (F0 m 2146 ls [])) : LG p l e s m b below meth c H locs (F0 m 532 ls []) := by
  obtain ⟨hx, hb, hr, hml, hown, hts, hX, hbl, hlocks, hgv⟩ := C0
  have hT : ∀ w ∈ TB, w.before #[Value.ref b] s = true := fun w h => hts w (TB_lw h)
  have hown : s.vm.findClass RL = some m.cls := hown
  have hA : ∀ q : Nat, s.heap.size ≤ q → (fun q : Nat => s.heap.size ≤ q) q := fun _ h => h
  have hbA : ¬ (fun q : Nat => s.heap.size ≤ q) b := Nat.not_le.mpr hbl
  refine lv_aload_n hx hb dL_law_532 rfl (lv_at hl 1 rfl) ?_
  refine lv_aload_n hx hb dL_law_533 rfl (lv_at hl 0 rfl) ?_
  refine lv_iload_n hx hb dL_law_534 rfl (lv_at hl 3 rfl) ?_
  refine lv_iconst (v := 1) hx hb dL_law_535 (by decide) ?_
  refine lv_iadd hx hb dL_law_536 ?_
  refine va_sld hx hb hX hbl hbA hS (in_s hi (k := 1) (by decide)) dL_law_537 ?_
  obtain ⟨r1, h1, hq, hM1⟩ := CALL_met (l := l) (dC := dC) (dI := dI) (ρ := ρ) (σ := σ) (a := a) pp_X8_keeps (Nat.le_of_ble_eq_true rfl) (k_X8_keeps h hI (xs (i + 1).toNatClampNeg))
  obtain ⟨rfl, z1, rfl, -⟩ := hq
  refine c_L (n := 1) (v := 0) (As := [.inl (xs (i + 1).toNatClampNeg)]) (rest := []) ⟨hx, hb, hml, hown, hT⟩ hK hM hA hP hD hS pp_X8_keeps hM1 sh_0 mw_213 mw_214 mw_215 mw_168 (by decide +kernel) rfl ⟨Nat.le_of_ble_eq_true rfl, Nat.le_of_ble_eq_true rfl⟩ hl.1 (Nat.le_of_ble_eq_true rfl) rfl dL_law_538 ⟨Nat.le_of_ble_eq_true rfl, Nat.le_of_ble_eq_true rfl⟩ (fun H locs hP hD hS => ?_)
  show LG p l e s m b below meth c H locs (F0 m 541 ls [.int z1])
  refine lv_pop hx hb dL_law_541 rfl ?_
  refine lv_aload_n hx hb dL_law_542 rfl (lv_at hl 2 rfl) ?_
  refine lv_aload_n hx hb dL_law_543 rfl (lv_at hl 0 rfl) ?_
  refine lv_iload_n hx hb dL_law_544 rfl (lv_at hl 3 rfl) ?_
  refine lv_iconst (v := 1) hx hb dL_law_545 (by decide) ?_
  refine lv_iadd hx hb dL_law_546 ?_
  refine va_sld hx hb hX hbl hbA hS (in_s hi (k := 1) (by decide)) dL_law_547 ?_
  obtain ⟨r2, h2, hq, hM1⟩ := CALL_met (l := l) (dC := dC) (dI := dI) (ρ := ρ) (σ := σ) (a := a) pp_X9_keeps (Nat.le_of_ble_eq_true rfl) (k_X9_keeps h hI (xs (i + 1).toNatClampNeg))
  obtain ⟨hI2, fr2, -, z2, rfl, -⟩ := hq
  refine c_L (n := 1) (v := 96) (As := [.inl (xs (i + 1).toNatClampNeg)]) (rest := []) ⟨hx, hb, hml, hown, hT⟩ hK hM hA hP hD hS pp_X9_keeps hM1 sh_96 mw_216 mw_217 mw_218 mw_173 (by decide +kernel) rfl ⟨Nat.le_of_ble_eq_true rfl, Nat.le_of_ble_eq_true rfl⟩ hl.1 (Nat.le_of_ble_eq_true rfl) rfl dL_law_548 ⟨Nat.le_of_ble_eq_true rfl, Nat.le_of_ble_eq_true rfl⟩ (fun H locs hP hD hS => ?_)
  have hI := hI2
  show LG p l e s m b below meth c H locs (F0 m 551 ls [.int z2])
  refine lv_pop hx hb dL_law_551 rfl ?_
  refine lv_goto (tgt := 2146) hx hb dL_law_552 (by decide) ?_
  exact hend _ _ _ _ hI (REL_fr (FR.rf [] h) fr2 (by decide) (by decide) hJ) hP hD hS hl
set_option maxRecDepth 100000 in
set_option maxHeartbeats 4000000 in
theorem lc_7 {p : Program} {l : Launch} {e : Env} {s : State} {m : MethodId} {below : List Frame} {meth : Method} {c : Code} {dC : Nat → ClassId} {dI : Nat → Nat → Nat} {b L : Nat} {xs : Nat → Int32} {H : Heap} {locs : List Loc} {ls : Array Slot} {ρ : Nat → Nat} {σ : Nat → Option Nat} {a : Nat → ClassId} {h : PH} {i : Int32} (C0 : lw_At p s m meth c b L xs) (hK : va_K (dC, dI) vwCl (tysP a) s) (hM : AMB σ (fun q : Nat => s.heap.size ≤ q) s s.heap) (hI : INV h) (hJ : REL h) (hP : va_P (dC, dI) vwCl (toW ρ a h) H) (hD : va_D (fun q : Nat => s.heap.size ≤ q) (toW ρ a h)) (hS : va_S (fun q : Nat => s.heap.size ≤ q) s.heap H locs) (hl : lv_has ls 4 [(0, .ref b), (1, .ref (ρ 0)), (2, .ref (ρ 96)), (3, .int i)]) (hi : 0 ≤ i.toInt ∧ i.toInt + 6 ≤ (L : Int) ∧ L ≤ 384) (hend : ∀ (H : Heap) (locs : List Loc) (ls : Array Slot) (h : PH), INV h → REL h → va_P (dC, dI) vwCl (toW ρ a h) H → va_D (fun q : Nat => s.heap.size ≤ q) (toW ρ a h) → va_S (fun q : Nat => s.heap.size ≤ q) s.heap H locs → lv_has ls 4 [(0, .ref b), (1, .ref (ρ 0)), (2, .ref (ρ 96)), (3, .int i)] → LG p l e s m b below meth c H locs (F0 m 2146 ls [])) : LG p l e s m b below meth c H locs (F0 m 555 ls []) := by
  obtain ⟨hx, hb, hr, hml, hown, hts, hX, hbl, hlocks, hgv⟩ := C0
  have hT : ∀ w ∈ TB, w.before #[Value.ref b] s = true := fun w h => hts w (TB_lw h)
  have hown : s.vm.findClass RL = some m.cls := hown
  have hA : ∀ q : Nat, s.heap.size ≤ q → (fun q : Nat => s.heap.size ≤ q) q := fun _ h => h
  have hbA : ¬ (fun q : Nat => s.heap.size ≤ q) b := Nat.not_le.mpr hbl
  refine lv_aload_n hx hb dL_law_555 rfl (lv_at hl 1 rfl) ?_
  refine lv_aload_n hx hb dL_law_556 rfl (lv_at hl 0 rfl) ?_
  refine lv_iload_n hx hb dL_law_557 rfl (lv_at hl 3 rfl) ?_
  refine lv_iconst (v := 1) hx hb dL_law_558 (by decide) ?_
  refine lv_iadd hx hb dL_law_559 ?_
  refine va_sld hx hb hX hbl hbA hS (in_s hi (k := 1) (by decide)) dL_law_560 ?_
  refine lv_aload_n hx hb dL_law_561 rfl (lv_at hl 0 rfl) ?_
  refine lv_iload_n hx hb dL_law_562 rfl (lv_at hl 3 rfl) ?_
  refine lv_iconst (v := 2) hx hb dL_law_563 (by decide) ?_
  refine lv_iadd hx hb dL_law_564 ?_
  refine va_sld hx hb hX hbl hbA hS (in_s hi (k := 2) (by decide)) dL_law_565 ?_
  obtain ⟨r1, h1, hq, hM1⟩ := CALL_met (l := l) (dC := dC) (dI := dI) (ρ := ρ) (σ := σ) (a := a) pp_X8_holds (Nat.le_of_ble_eq_true rfl) (k_X8_holds h hI (xs (i + 1).toNatClampNeg) (xs (i + 2).toNatClampNeg))
  obtain ⟨hI1, fr1, -, z1, rfl, -⟩ := hq
  refine c_L (n := 2) (v := 0) (As := [.inl (xs (i + 1).toNatClampNeg), .inl (xs (i + 2).toNatClampNeg)]) (rest := []) ⟨hx, hb, hml, hown, hT⟩ hK hM hA hP hD hS pp_X8_holds hM1 sh_0 mw_219 mw_220 mw_221 mw_168 (by decide +kernel) rfl ⟨Nat.le_of_ble_eq_true rfl, Nat.le_of_ble_eq_true rfl⟩ hl.1 (Nat.le_of_ble_eq_true rfl) rfl dL_law_566 ⟨Nat.le_of_ble_eq_true rfl, Nat.le_of_ble_eq_true rfl⟩ (fun H locs hP hD hS => ?_)
  have hI := hI1
  show LG p l e s m b below meth c H locs (F0 m 569 ls [.int z1])
  refine lv_pop hx hb dL_law_569 rfl ?_
  refine lv_aload_n hx hb dL_law_570 rfl (lv_at hl 2 rfl) ?_
  refine lv_aload_n hx hb dL_law_571 rfl (lv_at hl 0 rfl) ?_
  refine lv_iload_n hx hb dL_law_572 rfl (lv_at hl 3 rfl) ?_
  refine lv_iconst (v := 1) hx hb dL_law_573 (by decide) ?_
  refine lv_iadd hx hb dL_law_574 ?_
  refine va_sld hx hb hX hbl hbA hS (in_s hi (k := 1) (by decide)) dL_law_575 ?_
  refine lv_aload_n hx hb dL_law_576 rfl (lv_at hl 0 rfl) ?_
  refine lv_iload_n hx hb dL_law_577 rfl (lv_at hl 3 rfl) ?_
  refine lv_iconst (v := 2) hx hb dL_law_578 (by decide) ?_
  refine lv_iadd hx hb dL_law_579 ?_
  refine va_sld hx hb hX hbl hbA hS (in_s hi (k := 2) (by decide)) dL_law_580 ?_
  obtain ⟨r2, h2, hq, hM1⟩ := CALL_met (l := l) (dC := dC) (dI := dI) (ρ := ρ) (σ := σ) (a := a) pp_X9_holds (Nat.le_of_ble_eq_true rfl) (k_X9_holds h1 hI (xs (i + 1).toNatClampNeg) (xs (i + 2).toNatClampNeg))
  obtain ⟨hI2, fr2, -, z2, rfl, -⟩ := hq
  refine c_L (n := 2) (v := 96) (As := [.inl (xs (i + 1).toNatClampNeg), .inl (xs (i + 2).toNatClampNeg)]) (rest := []) ⟨hx, hb, hml, hown, hT⟩ hK hM hA hP hD hS pp_X9_holds hM1 sh_96 mw_222 mw_223 mw_224 mw_173 (by decide +kernel) rfl ⟨Nat.le_of_ble_eq_true rfl, Nat.le_of_ble_eq_true rfl⟩ hl.1 (Nat.le_of_ble_eq_true rfl) rfl dL_law_581 ⟨Nat.le_of_ble_eq_true rfl, Nat.le_of_ble_eq_true rfl⟩ (fun H locs hP hD hS => ?_)
  have hI := hI2
  show LG p l e s m b below meth c H locs (F0 m 584 ls [.int z2])
  refine lv_pop hx hb dL_law_584 rfl ?_
  refine lv_goto (tgt := 2146) hx hb dL_law_585 (by decide) ?_
  exact hend _ _ _ _ hI (REL_fr fr1 fr2 (by decide) (by decide) hJ) hP hD hS hl
set_option maxRecDepth 100000 in
set_option maxHeartbeats 4000000 in
theorem lc_8 {p : Program} {l : Launch} {e : Env} {s : State} {m : MethodId} {below : List Frame} {meth : Method} {c : Code} {dC : Nat → ClassId} {dI : Nat → Nat → Nat} {b L : Nat} {xs : Nat → Int32} {H : Heap} {locs : List Loc} {ls : Array Slot} {ρ : Nat → Nat} {σ : Nat → Option Nat} {a : Nat → ClassId} {h : PH} {i : Int32} (C0 : lw_At p s m meth c b L xs) (hK : va_K (dC, dI) vwCl (tysP a) s) (hM : AMB σ (fun q : Nat => s.heap.size ≤ q) s s.heap) (hI : INV h) (hJ : REL h) (hP : va_P (dC, dI) vwCl (toW ρ a h) H) (hD : va_D (fun q : Nat => s.heap.size ≤ q) (toW ρ a h)) (hS : va_S (fun q : Nat => s.heap.size ≤ q) s.heap H locs) (hl : lv_has ls 4 [(0, .ref b), (1, .ref (ρ 0)), (2, .ref (ρ 96)), (3, .int i)]) (hi : 0 ≤ i.toInt ∧ i.toInt + 6 ≤ (L : Int) ∧ L ≤ 384) (hend : ∀ (H : Heap) (locs : List Loc) (ls : Array Slot) (h : PH), INV h → REL h → va_P (dC, dI) vwCl (toW ρ a h) H → va_D (fun q : Nat => s.heap.size ≤ q) (toW ρ a h) → va_S (fun q : Nat => s.heap.size ≤ q) s.heap H locs → lv_has ls 4 [(0, .ref b), (1, .ref (ρ 0)), (2, .ref (ρ 96)), (3, .int i)] → LG p l e s m b below meth c H locs (F0 m 2146 ls [])) : LG p l e s m b below meth c H locs (F0 m 588 ls []) := by
  obtain ⟨hx, hb, hr, hml, hown, hts, hX, hbl, hlocks, hgv⟩ := C0
  have hT : ∀ w ∈ TB, w.before #[Value.ref b] s = true := fun w h => hts w (TB_lw h)
  have hown : s.vm.findClass RL = some m.cls := hown
  have hA : ∀ q : Nat, s.heap.size ≤ q → (fun q : Nat => s.heap.size ≤ q) q := fun _ h => h
  have hbA : ¬ (fun q : Nat => s.heap.size ≤ q) b := Nat.not_le.mpr hbl
  refine lv_aload_n hx hb dL_law_588 rfl (lv_at hl 1 rfl) ?_
  refine lv_aload_n hx hb dL_law_589 rfl (lv_at hl 0 rfl) ?_
  refine lv_iload_n hx hb dL_law_590 rfl (lv_at hl 3 rfl) ?_
  refine lv_iconst (v := 1) hx hb dL_law_591 (by decide) ?_
  refine lv_iadd hx hb dL_law_592 ?_
  refine va_sld hx hb hX hbl hbA hS (in_s hi (k := 1) (by decide)) dL_law_593 ?_
  refine lv_aload_n hx hb dL_law_594 rfl (lv_at hl 0 rfl) ?_
  refine lv_iload_n hx hb dL_law_595 rfl (lv_at hl 3 rfl) ?_
  refine lv_iconst (v := 2) hx hb dL_law_596 (by decide) ?_
  refine lv_iadd hx hb dL_law_597 ?_
  refine va_sld hx hb hX hbl hbA hS (in_s hi (k := 2) (by decide)) dL_law_598 ?_
  obtain ⟨r1, h1, hq, hM1⟩ := CALL_met (l := l) (dC := dC) (dI := dI) (ρ := ρ) (σ := σ) (a := a) pp_X8_held (Nat.le_of_ble_eq_true rfl) (k_X8_held h hI (xs (i + 1).toNatClampNeg) (xs (i + 2).toNatClampNeg))
  obtain ⟨hI1, fr1, -, z1, rfl, -⟩ := hq
  refine c_L (n := 2) (v := 0) (As := [.inl (xs (i + 1).toNatClampNeg), .inl (xs (i + 2).toNatClampNeg)]) (rest := []) ⟨hx, hb, hml, hown, hT⟩ hK hM hA hP hD hS pp_X8_held hM1 sh_0 mw_225 mw_226 mw_227 mw_168 (by decide +kernel) rfl ⟨Nat.le_of_ble_eq_true rfl, Nat.le_of_ble_eq_true rfl⟩ hl.1 (Nat.le_of_ble_eq_true rfl) rfl dL_law_599 ⟨Nat.le_of_ble_eq_true rfl, Nat.le_of_ble_eq_true rfl⟩ (fun H locs hP hD hS => ?_)
  have hI := hI1
  show LG p l e s m b below meth c H locs (F0 m 602 ls [.int z1])
  refine lv_pop hx hb dL_law_602 rfl ?_
  refine lv_aload_n hx hb dL_law_603 rfl (lv_at hl 2 rfl) ?_
  refine lv_aload_n hx hb dL_law_604 rfl (lv_at hl 0 rfl) ?_
  refine lv_iload_n hx hb dL_law_605 rfl (lv_at hl 3 rfl) ?_
  refine lv_iconst (v := 1) hx hb dL_law_606 (by decide) ?_
  refine lv_iadd hx hb dL_law_607 ?_
  refine va_sld hx hb hX hbl hbA hS (in_s hi (k := 1) (by decide)) dL_law_608 ?_
  refine lv_aload_n hx hb dL_law_609 rfl (lv_at hl 0 rfl) ?_
  refine lv_iload_n hx hb dL_law_610 rfl (lv_at hl 3 rfl) ?_
  refine lv_iconst (v := 2) hx hb dL_law_611 (by decide) ?_
  refine lv_iadd hx hb dL_law_612 ?_
  refine va_sld hx hb hX hbl hbA hS (in_s hi (k := 2) (by decide)) dL_law_613 ?_
  obtain ⟨r2, h2, hq, hM1⟩ := CALL_met (l := l) (dC := dC) (dI := dI) (ρ := ρ) (σ := σ) (a := a) pp_X9_held (Nat.le_of_ble_eq_true rfl) (k_X9_held h1 hI (xs (i + 1).toNatClampNeg) (xs (i + 2).toNatClampNeg))
  obtain ⟨hI2, fr2, -, z2, rfl, -⟩ := hq
  refine c_L (n := 2) (v := 96) (As := [.inl (xs (i + 1).toNatClampNeg), .inl (xs (i + 2).toNatClampNeg)]) (rest := []) ⟨hx, hb, hml, hown, hT⟩ hK hM hA hP hD hS pp_X9_held hM1 sh_96 mw_228 mw_229 mw_230 mw_173 (by decide +kernel) rfl ⟨Nat.le_of_ble_eq_true rfl, Nat.le_of_ble_eq_true rfl⟩ hl.1 (Nat.le_of_ble_eq_true rfl) rfl dL_law_614 ⟨Nat.le_of_ble_eq_true rfl, Nat.le_of_ble_eq_true rfl⟩ (fun H locs hP hD hS => ?_)
  have hI := hI2
  show LG p l e s m b below meth c H locs (F0 m 617 ls [.int z2])
  refine lv_pop hx hb dL_law_617 rfl ?_
  refine lv_goto (tgt := 2146) hx hb dL_law_618 (by decide) ?_
  exact hend _ _ _ _ hI (REL_fr fr1 fr2 (by decide) (by decide) hJ) hP hD hS hl
set_option maxRecDepth 100000 in
set_option maxHeartbeats 4000000 in
theorem lc_9 {p : Program} {l : Launch} {e : Env} {s : State} {m : MethodId} {below : List Frame} {meth : Method} {c : Code} {dC : Nat → ClassId} {dI : Nat → Nat → Nat} {b L : Nat} {xs : Nat → Int32} {H : Heap} {locs : List Loc} {ls : Array Slot} {ρ : Nat → Nat} {σ : Nat → Option Nat} {a : Nat → ClassId} {h : PH} {i : Int32} (C0 : lw_At p s m meth c b L xs) (hK : va_K (dC, dI) vwCl (tysP a) s) (hM : AMB σ (fun q : Nat => s.heap.size ≤ q) s s.heap) (hI : INV h) (hJ : REL h) (hP : va_P (dC, dI) vwCl (toW ρ a h) H) (hD : va_D (fun q : Nat => s.heap.size ≤ q) (toW ρ a h)) (hS : va_S (fun q : Nat => s.heap.size ≤ q) s.heap H locs) (hl : lv_has ls 4 [(0, .ref b), (1, .ref (ρ 0)), (2, .ref (ρ 96)), (3, .int i)]) (hi : 0 ≤ i.toInt ∧ i.toInt + 6 ≤ (L : Int) ∧ L ≤ 384) (hend : ∀ (H : Heap) (locs : List Loc) (ls : Array Slot) (h : PH), INV h → REL h → va_P (dC, dI) vwCl (toW ρ a h) H → va_D (fun q : Nat => s.heap.size ≤ q) (toW ρ a h) → va_S (fun q : Nat => s.heap.size ≤ q) s.heap H locs → lv_has ls 4 [(0, .ref b), (1, .ref (ρ 0)), (2, .ref (ρ 96)), (3, .int i)] → LG p l e s m b below meth c H locs (F0 m 2146 ls [])) : LG p l e s m b below meth c H locs (F0 m 621 ls []) := by
  obtain ⟨hx, hb, hr, hml, hown, hts, hX, hbl, hlocks, hgv⟩ := C0
  have hT : ∀ w ∈ TB, w.before #[Value.ref b] s = true := fun w h => hts w (TB_lw h)
  have hown : s.vm.findClass RL = some m.cls := hown
  have hA : ∀ q : Nat, s.heap.size ≤ q → (fun q : Nat => s.heap.size ≤ q) q := fun _ h => h
  have hbA : ¬ (fun q : Nat => s.heap.size ≤ q) b := Nat.not_le.mpr hbl
  refine lv_aload_n hx hb dL_law_621 rfl (lv_at hl 1 rfl) ?_
  refine lv_aload_n hx hb dL_law_622 rfl (lv_at hl 0 rfl) ?_
  refine lv_iload_n hx hb dL_law_623 rfl (lv_at hl 3 rfl) ?_
  refine lv_iconst (v := 1) hx hb dL_law_624 (by decide) ?_
  refine lv_iadd hx hb dL_law_625 ?_
  refine va_sld hx hb hX hbl hbA hS (in_s hi (k := 1) (by decide)) dL_law_626 ?_
  obtain ⟨r1, h1, hq, hM1⟩ := CALL_met (l := l) (dC := dC) (dI := dI) (ρ := ρ) (σ := σ) (a := a) pp_X8_busy (Nat.le_of_ble_eq_true rfl) (k_X8_busy h hI (xs (i + 1).toNatClampNeg))
  obtain ⟨hI1, fr1, -, z1, rfl, -⟩ := hq
  refine c_L (n := 1) (v := 0) (As := [.inl (xs (i + 1).toNatClampNeg)]) (rest := []) ⟨hx, hb, hml, hown, hT⟩ hK hM hA hP hD hS pp_X8_busy hM1 sh_0 mw_231 mw_232 mw_233 mw_168 (by decide +kernel) rfl ⟨Nat.le_of_ble_eq_true rfl, Nat.le_of_ble_eq_true rfl⟩ hl.1 (Nat.le_of_ble_eq_true rfl) rfl dL_law_627 ⟨Nat.le_of_ble_eq_true rfl, Nat.le_of_ble_eq_true rfl⟩ (fun H locs hP hD hS => ?_)
  have hI := hI1
  show LG p l e s m b below meth c H locs (F0 m 630 ls [.int z1])
  refine lv_pop hx hb dL_law_630 rfl ?_
  refine lv_aload_n hx hb dL_law_631 rfl (lv_at hl 2 rfl) ?_
  refine lv_aload_n hx hb dL_law_632 rfl (lv_at hl 0 rfl) ?_
  refine lv_iload_n hx hb dL_law_633 rfl (lv_at hl 3 rfl) ?_
  refine lv_iconst (v := 1) hx hb dL_law_634 (by decide) ?_
  refine lv_iadd hx hb dL_law_635 ?_
  refine va_sld hx hb hX hbl hbA hS (in_s hi (k := 1) (by decide)) dL_law_636 ?_
  obtain ⟨r2, h2, hq, hM1⟩ := CALL_met (l := l) (dC := dC) (dI := dI) (ρ := ρ) (σ := σ) (a := a) pp_X9_busy (Nat.le_of_ble_eq_true rfl) (k_X9_busy h1 hI (xs (i + 1).toNatClampNeg))
  obtain ⟨hI2, fr2, -, z2, rfl, -⟩ := hq
  refine c_L (n := 1) (v := 96) (As := [.inl (xs (i + 1).toNatClampNeg)]) (rest := []) ⟨hx, hb, hml, hown, hT⟩ hK hM hA hP hD hS pp_X9_busy hM1 sh_96 mw_234 mw_235 mw_236 mw_173 (by decide +kernel) rfl ⟨Nat.le_of_ble_eq_true rfl, Nat.le_of_ble_eq_true rfl⟩ hl.1 (Nat.le_of_ble_eq_true rfl) rfl dL_law_637 ⟨Nat.le_of_ble_eq_true rfl, Nat.le_of_ble_eq_true rfl⟩ (fun H locs hP hD hS => ?_)
  have hI := hI2
  show LG p l e s m b below meth c H locs (F0 m 640 ls [.int z2])
  refine lv_pop hx hb dL_law_640 rfl ?_
  refine lv_goto (tgt := 2146) hx hb dL_law_641 (by decide) ?_
  exact hend _ _ _ _ hI (REL_fr fr1 fr2 (by decide) (by decide) hJ) hP hD hS hl

set_option maxRecDepth 100000 in
set_option maxHeartbeats 4000000 in
theorem lc_10 {p : Program} {l : Launch} {e : Env} {s : State} {m : MethodId} {below : List Frame} {meth : Method} {c : Code} {dC : Nat → ClassId} {dI : Nat → Nat → Nat} {b L : Nat} {xs : Nat → Int32} {H : Heap} {locs : List Loc} {ls : Array Slot} {ρ : Nat → Nat} {σ : Nat → Option Nat} {a : Nat → ClassId} {h : PH} {i : Int32} (C0 : lw_At p s m meth c b L xs) (hK : va_K (dC, dI) vwCl (tysP a) s) (hM : AMB σ (fun q : Nat => s.heap.size ≤ q) s s.heap) (hI : INV h) (hJ : REL h) (hP : va_P (dC, dI) vwCl (toW ρ a h) H) (hD : va_D (fun q : Nat => s.heap.size ≤ q) (toW ρ a h)) (hS : va_S (fun q : Nat => s.heap.size ≤ q) s.heap H locs) (hl : lv_has ls 4 [(0, .ref b), (1, .ref (ρ 0)), (2, .ref (ρ 96)), (3, .int i)]) (hi : 0 ≤ i.toInt ∧ i.toInt + 6 ≤ (L : Int) ∧ L ≤ 384) (hend : ∀ (H : Heap) (locs : List Loc) (ls : Array Slot) (h : PH), INV h → REL h → va_P (dC, dI) vwCl (toW ρ a h) H → va_D (fun q : Nat => s.heap.size ≤ q) (toW ρ a h) → va_S (fun q : Nat => s.heap.size ≤ q) s.heap H locs → lv_has ls 4 [(0, .ref b), (1, .ref (ρ 0)), (2, .ref (ρ 96)), (3, .int i)] → LG p l e s m b below meth c H locs (F0 m 2146 ls [])) : LG p l e s m b below meth c H locs (F0 m 644 ls []) := by
  obtain ⟨hx, hb, hr, hml, hown, hts, hX, hbl, hlocks, hgv⟩ := C0
  have hT : ∀ w ∈ TB, w.before #[Value.ref b] s = true := fun w h => hts w (TB_lw h)
  have hown : s.vm.findClass RL = some m.cls := hown
  have hA : ∀ q : Nat, s.heap.size ≤ q → (fun q : Nat => s.heap.size ≤ q) q := fun _ h => h
  have hbA : ¬ (fun q : Nat => s.heap.size ≤ q) b := Nat.not_le.mpr hbl
  refine lv_aload_n hx hb dL_law_644 rfl (lv_at hl 1 rfl) ?_
  refine lv_aload_n hx hb dL_law_645 rfl (lv_at hl 0 rfl) ?_
  refine lv_iload_n hx hb dL_law_646 rfl (lv_at hl 3 rfl) ?_
  refine lv_iconst (v := 1) hx hb dL_law_647 (by decide) ?_
  refine lv_iadd hx hb dL_law_648 ?_
  refine va_sld hx hb hX hbl hbA hS (in_s hi (k := 1) (by decide)) dL_law_649 ?_
  obtain ⟨r1, h1, hq, hM1⟩ := CALL_met (l := l) (dC := dC) (dI := dI) (ρ := ρ) (σ := σ) (a := a) pp_X8_waits (Nat.le_of_ble_eq_true rfl) (k_X8_waits h hI (xs (i + 1).toNatClampNeg))
  obtain ⟨hI1, fr1, -, z1, rfl, -⟩ := hq
  refine c_L (n := 1) (v := 0) (As := [.inl (xs (i + 1).toNatClampNeg)]) (rest := []) ⟨hx, hb, hml, hown, hT⟩ hK hM hA hP hD hS pp_X8_waits hM1 sh_0 mw_237 mw_238 mw_239 mw_168 (by decide +kernel) rfl ⟨Nat.le_of_ble_eq_true rfl, Nat.le_of_ble_eq_true rfl⟩ hl.1 (Nat.le_of_ble_eq_true rfl) rfl dL_law_650 ⟨Nat.le_of_ble_eq_true rfl, Nat.le_of_ble_eq_true rfl⟩ (fun H locs hP hD hS => ?_)
  have hI := hI1
  show LG p l e s m b below meth c H locs (F0 m 653 ls [.int z1])
  refine lv_pop hx hb dL_law_653 rfl ?_
  refine lv_aload_n hx hb dL_law_654 rfl (lv_at hl 2 rfl) ?_
  refine lv_aload_n hx hb dL_law_655 rfl (lv_at hl 0 rfl) ?_
  refine lv_iload_n hx hb dL_law_656 rfl (lv_at hl 3 rfl) ?_
  refine lv_iconst (v := 1) hx hb dL_law_657 (by decide) ?_
  refine lv_iadd hx hb dL_law_658 ?_
  refine va_sld hx hb hX hbl hbA hS (in_s hi (k := 1) (by decide)) dL_law_659 ?_
  obtain ⟨r2, h2, hq, hM1⟩ := CALL_met (l := l) (dC := dC) (dI := dI) (ρ := ρ) (σ := σ) (a := a) pp_X9_waits (Nat.le_of_ble_eq_true rfl) (k_X9_waits h1 hI (xs (i + 1).toNatClampNeg))
  obtain ⟨hI2, fr2, -, z2, rfl, -⟩ := hq
  refine c_L (n := 1) (v := 96) (As := [.inl (xs (i + 1).toNatClampNeg)]) (rest := []) ⟨hx, hb, hml, hown, hT⟩ hK hM hA hP hD hS pp_X9_waits hM1 sh_96 mw_240 mw_241 mw_242 mw_173 (by decide +kernel) rfl ⟨Nat.le_of_ble_eq_true rfl, Nat.le_of_ble_eq_true rfl⟩ hl.1 (Nat.le_of_ble_eq_true rfl) rfl dL_law_660 ⟨Nat.le_of_ble_eq_true rfl, Nat.le_of_ble_eq_true rfl⟩ (fun H locs hP hD hS => ?_)
  have hI := hI2
  show LG p l e s m b below meth c H locs (F0 m 663 ls [.int z2])
  refine lv_pop hx hb dL_law_663 rfl ?_
  refine lv_goto (tgt := 2146) hx hb dL_law_664 (by decide) ?_
  exact hend _ _ _ _ hI (REL_fr fr1 fr2 (by decide) (by decide) hJ) hP hD hS hl
set_option maxRecDepth 100000 in
set_option maxHeartbeats 4000000 in
theorem lc_11 {p : Program} {l : Launch} {e : Env} {s : State} {m : MethodId} {below : List Frame} {meth : Method} {c : Code} {dC : Nat → ClassId} {dI : Nat → Nat → Nat} {b L : Nat} {xs : Nat → Int32} {H : Heap} {locs : List Loc} {ls : Array Slot} {ρ : Nat → Nat} {σ : Nat → Option Nat} {a : Nat → ClassId} {h : PH} {i : Int32} (C0 : lw_At p s m meth c b L xs) (hK : va_K (dC, dI) vwCl (tysP a) s) (hM : AMB σ (fun q : Nat => s.heap.size ≤ q) s s.heap) (hI : INV h) (hJ : REL h) (hP : va_P (dC, dI) vwCl (toW ρ a h) H) (hD : va_D (fun q : Nat => s.heap.size ≤ q) (toW ρ a h)) (hS : va_S (fun q : Nat => s.heap.size ≤ q) s.heap H locs) (hl : lv_has ls 4 [(0, .ref b), (1, .ref (ρ 0)), (2, .ref (ρ 96)), (3, .int i)]) (hi : 0 ≤ i.toInt ∧ i.toInt + 6 ≤ (L : Int) ∧ L ≤ 384) (hend : ∀ (H : Heap) (locs : List Loc) (ls : Array Slot) (h : PH), INV h → REL h → va_P (dC, dI) vwCl (toW ρ a h) H → va_D (fun q : Nat => s.heap.size ≤ q) (toW ρ a h) → va_S (fun q : Nat => s.heap.size ≤ q) s.heap H locs → lv_has ls 4 [(0, .ref b), (1, .ref (ρ 0)), (2, .ref (ρ 96)), (3, .int i)] → LG p l e s m b below meth c H locs (F0 m 2146 ls [])) : LG p l e s m b below meth c H locs (F0 m 667 ls []) := by
  obtain ⟨hx, hb, hr, hml, hown, hts, hX, hbl, hlocks, hgv⟩ := C0
  have hT : ∀ w ∈ TB, w.before #[Value.ref b] s = true := fun w h => hts w (TB_lw h)
  have hown : s.vm.findClass RL = some m.cls := hown
  have hA : ∀ q : Nat, s.heap.size ≤ q → (fun q : Nat => s.heap.size ≤ q) q := fun _ h => h
  have hbA : ¬ (fun q : Nat => s.heap.size ≤ q) b := Nat.not_le.mpr hbl
  refine lv_aload_n hx hb dL_law_667 rfl (lv_at hl 1 rfl) ?_
  refine lv_aload_n hx hb dL_law_668 rfl (lv_at hl 0 rfl) ?_
  refine lv_iload_n hx hb dL_law_669 rfl (lv_at hl 3 rfl) ?_
  refine lv_iconst (v := 1) hx hb dL_law_670 (by decide) ?_
  refine lv_iadd hx hb dL_law_671 ?_
  refine va_sld hx hb hX hbl hbA hS (in_s hi (k := 1) (by decide)) dL_law_672 ?_
  obtain ⟨r1, h1, hq, hM1⟩ := CALL_met (l := l) (dC := dC) (dI := dI) (ρ := ρ) (σ := σ) (a := a) pp_X8_stays (Nat.le_of_ble_eq_true rfl) (k_X8_stays h hI (xs (i + 1).toNatClampNeg))
  obtain ⟨hI1, fr1, -, z1, rfl, -⟩ := hq
  refine c_L (n := 1) (v := 0) (As := [.inl (xs (i + 1).toNatClampNeg)]) (rest := []) ⟨hx, hb, hml, hown, hT⟩ hK hM hA hP hD hS pp_X8_stays hM1 sh_0 mw_243 mw_244 mw_245 mw_168 (by decide +kernel) rfl ⟨Nat.le_of_ble_eq_true rfl, Nat.le_of_ble_eq_true rfl⟩ hl.1 (Nat.le_of_ble_eq_true rfl) rfl dL_law_673 ⟨Nat.le_of_ble_eq_true rfl, Nat.le_of_ble_eq_true rfl⟩ (fun H locs hP hD hS => ?_)
  have hI := hI1
  show LG p l e s m b below meth c H locs (F0 m 676 ls [.int z1])
  refine lv_pop hx hb dL_law_676 rfl ?_
  refine lv_aload_n hx hb dL_law_677 rfl (lv_at hl 2 rfl) ?_
  refine lv_aload_n hx hb dL_law_678 rfl (lv_at hl 0 rfl) ?_
  refine lv_iload_n hx hb dL_law_679 rfl (lv_at hl 3 rfl) ?_
  refine lv_iconst (v := 1) hx hb dL_law_680 (by decide) ?_
  refine lv_iadd hx hb dL_law_681 ?_
  refine va_sld hx hb hX hbl hbA hS (in_s hi (k := 1) (by decide)) dL_law_682 ?_
  obtain ⟨r2, h2, hq, hM1⟩ := CALL_met (l := l) (dC := dC) (dI := dI) (ρ := ρ) (σ := σ) (a := a) pp_X9_stays (Nat.le_of_ble_eq_true rfl) (k_X9_stays h1 hI (xs (i + 1).toNatClampNeg))
  obtain ⟨hI2, fr2, -, z2, rfl, -⟩ := hq
  refine c_L (n := 1) (v := 96) (As := [.inl (xs (i + 1).toNatClampNeg)]) (rest := []) ⟨hx, hb, hml, hown, hT⟩ hK hM hA hP hD hS pp_X9_stays hM1 sh_96 mw_246 mw_247 mw_248 mw_173 (by decide +kernel) rfl ⟨Nat.le_of_ble_eq_true rfl, Nat.le_of_ble_eq_true rfl⟩ hl.1 (Nat.le_of_ble_eq_true rfl) rfl dL_law_683 ⟨Nat.le_of_ble_eq_true rfl, Nat.le_of_ble_eq_true rfl⟩ (fun H locs hP hD hS => ?_)
  have hI := hI2
  show LG p l e s m b below meth c H locs (F0 m 686 ls [.int z2])
  refine lv_pop hx hb dL_law_686 rfl ?_
  refine lv_goto (tgt := 2146) hx hb dL_law_687 (by decide) ?_
  exact hend _ _ _ _ hI (REL_fr fr1 fr2 (by decide) (by decide) hJ) hP hD hS hl
set_option maxRecDepth 100000 in
set_option maxHeartbeats 4000000 in
theorem lc_12 {p : Program} {l : Launch} {e : Env} {s : State} {m : MethodId} {below : List Frame} {meth : Method} {c : Code} {dC : Nat → ClassId} {dI : Nat → Nat → Nat} {b L : Nat} {xs : Nat → Int32} {H : Heap} {locs : List Loc} {ls : Array Slot} {ρ : Nat → Nat} {σ : Nat → Option Nat} {a : Nat → ClassId} {h : PH} {i : Int32} (C0 : lw_At p s m meth c b L xs) (hK : va_K (dC, dI) vwCl (tysP a) s) (hM : AMB σ (fun q : Nat => s.heap.size ≤ q) s s.heap) (hI : INV h) (hJ : REL h) (hP : va_P (dC, dI) vwCl (toW ρ a h) H) (hD : va_D (fun q : Nat => s.heap.size ≤ q) (toW ρ a h)) (hS : va_S (fun q : Nat => s.heap.size ≤ q) s.heap H locs) (hl : lv_has ls 4 [(0, .ref b), (1, .ref (ρ 0)), (2, .ref (ρ 96)), (3, .int i)]) (hi : 0 ≤ i.toInt ∧ i.toInt + 6 ≤ (L : Int) ∧ L ≤ 384) (hend : ∀ (H : Heap) (locs : List Loc) (ls : Array Slot) (h : PH), INV h → REL h → va_P (dC, dI) vwCl (toW ρ a h) H → va_D (fun q : Nat => s.heap.size ≤ q) (toW ρ a h) → va_S (fun q : Nat => s.heap.size ≤ q) s.heap H locs → lv_has ls 4 [(0, .ref b), (1, .ref (ρ 0)), (2, .ref (ρ 96)), (3, .int i)] → LG p l e s m b below meth c H locs (F0 m 2146 ls [])) : LG p l e s m b below meth c H locs (F0 m 690 ls []) := by
  obtain ⟨hx, hb, hr, hml, hown, hts, hX, hbl, hlocks, hgv⟩ := C0
  have hT : ∀ w ∈ TB, w.before #[Value.ref b] s = true := fun w h => hts w (TB_lw h)
  have hown : s.vm.findClass RL = some m.cls := hown
  have hA : ∀ q : Nat, s.heap.size ≤ q → (fun q : Nat => s.heap.size ≤ q) q := fun _ h => h
  have hbA : ¬ (fun q : Nat => s.heap.size ≤ q) b := Nat.not_le.mpr hbl
  refine lv_aload_n hx hb dL_law_690 rfl (lv_at hl 1 rfl) ?_
  refine lv_aload_n hx hb dL_law_691 rfl (lv_at hl 0 rfl) ?_
  refine lv_iload_n hx hb dL_law_692 rfl (lv_at hl 3 rfl) ?_
  refine lv_iconst (v := 1) hx hb dL_law_693 (by decide) ?_
  refine lv_iadd hx hb dL_law_694 ?_
  refine va_sld hx hb hX hbl hbA hS (in_s hi (k := 1) (by decide)) dL_law_695 ?_
  obtain ⟨r1, h1, hq, hM1⟩ := CALL_met (l := l) (dC := dC) (dI := dI) (ρ := ρ) (σ := σ) (a := a) pp_X8_idle (Nat.le_of_ble_eq_true rfl) (k_X8_idle h hI (xs (i + 1).toNatClampNeg))
  obtain ⟨hI1, fr1, -, z1, rfl, -⟩ := hq
  refine c_L (n := 1) (v := 0) (As := [.inl (xs (i + 1).toNatClampNeg)]) (rest := []) ⟨hx, hb, hml, hown, hT⟩ hK hM hA hP hD hS pp_X8_idle hM1 sh_0 mw_249 mw_250 mw_251 mw_168 (by decide +kernel) rfl ⟨Nat.le_of_ble_eq_true rfl, Nat.le_of_ble_eq_true rfl⟩ hl.1 (Nat.le_of_ble_eq_true rfl) rfl dL_law_696 ⟨Nat.le_of_ble_eq_true rfl, Nat.le_of_ble_eq_true rfl⟩ (fun H locs hP hD hS => ?_)
  have hI := hI1
  show LG p l e s m b below meth c H locs (F0 m 699 ls [.int z1])
  refine lv_pop hx hb dL_law_699 rfl ?_
  refine lv_aload_n hx hb dL_law_700 rfl (lv_at hl 2 rfl) ?_
  refine lv_aload_n hx hb dL_law_701 rfl (lv_at hl 0 rfl) ?_
  refine lv_iload_n hx hb dL_law_702 rfl (lv_at hl 3 rfl) ?_
  refine lv_iconst (v := 1) hx hb dL_law_703 (by decide) ?_
  refine lv_iadd hx hb dL_law_704 ?_
  refine va_sld hx hb hX hbl hbA hS (in_s hi (k := 1) (by decide)) dL_law_705 ?_
  obtain ⟨r2, h2, hq, hM1⟩ := CALL_met (l := l) (dC := dC) (dI := dI) (ρ := ρ) (σ := σ) (a := a) pp_X9_idle (Nat.le_of_ble_eq_true rfl) (k_X9_idle h1 hI (xs (i + 1).toNatClampNeg))
  obtain ⟨hI2, fr2, -, z2, rfl, -⟩ := hq
  refine c_L (n := 1) (v := 96) (As := [.inl (xs (i + 1).toNatClampNeg)]) (rest := []) ⟨hx, hb, hml, hown, hT⟩ hK hM hA hP hD hS pp_X9_idle hM1 sh_96 mw_252 mw_253 mw_254 mw_173 (by decide +kernel) rfl ⟨Nat.le_of_ble_eq_true rfl, Nat.le_of_ble_eq_true rfl⟩ hl.1 (Nat.le_of_ble_eq_true rfl) rfl dL_law_706 ⟨Nat.le_of_ble_eq_true rfl, Nat.le_of_ble_eq_true rfl⟩ (fun H locs hP hD hS => ?_)
  have hI := hI2
  show LG p l e s m b below meth c H locs (F0 m 709 ls [.int z2])
  refine lv_pop hx hb dL_law_709 rfl ?_
  refine lv_goto (tgt := 2146) hx hb dL_law_710 (by decide) ?_
  exact hend _ _ _ _ hI (REL_fr fr1 fr2 (by decide) (by decide) hJ) hP hD hS hl
set_option maxRecDepth 100000 in
set_option maxHeartbeats 4000000 in
theorem lc_13 {p : Program} {l : Launch} {e : Env} {s : State} {m : MethodId} {below : List Frame} {meth : Method} {c : Code} {dC : Nat → ClassId} {dI : Nat → Nat → Nat} {b L : Nat} {xs : Nat → Int32} {H : Heap} {locs : List Loc} {ls : Array Slot} {ρ : Nat → Nat} {σ : Nat → Option Nat} {a : Nat → ClassId} {h : PH} {i : Int32} (C0 : lw_At p s m meth c b L xs) (hK : va_K (dC, dI) vwCl (tysP a) s) (hM : AMB σ (fun q : Nat => s.heap.size ≤ q) s s.heap) (hI : INV h) (hJ : REL h) (hP : va_P (dC, dI) vwCl (toW ρ a h) H) (hD : va_D (fun q : Nat => s.heap.size ≤ q) (toW ρ a h)) (hS : va_S (fun q : Nat => s.heap.size ≤ q) s.heap H locs) (hl : lv_has ls 4 [(0, .ref b), (1, .ref (ρ 0)), (2, .ref (ρ 96)), (3, .int i)]) (hi : 0 ≤ i.toInt ∧ i.toInt + 6 ≤ (L : Int) ∧ L ≤ 384) (hend : ∀ (H : Heap) (locs : List Loc) (ls : Array Slot) (h : PH), INV h → REL h → va_P (dC, dI) vwCl (toW ρ a h) H → va_D (fun q : Nat => s.heap.size ≤ q) (toW ρ a h) → va_S (fun q : Nat => s.heap.size ≤ q) s.heap H locs → lv_has ls 4 [(0, .ref b), (1, .ref (ρ 0)), (2, .ref (ρ 96)), (3, .int i)] → LG p l e s m b below meth c H locs (F0 m 2146 ls [])) : LG p l e s m b below meth c H locs (F0 m 713 ls []) := by
  obtain ⟨hx, hb, hr, hml, hown, hts, hX, hbl, hlocks, hgv⟩ := C0
  have hT : ∀ w ∈ TB, w.before #[Value.ref b] s = true := fun w h => hts w (TB_lw h)
  have hown : s.vm.findClass RL = some m.cls := hown
  have hA : ∀ q : Nat, s.heap.size ≤ q → (fun q : Nat => s.heap.size ≤ q) q := fun _ h => h
  have hbA : ¬ (fun q : Nat => s.heap.size ≤ q) b := Nat.not_le.mpr hbl
  refine lv_aload_n hx hb dL_law_713 rfl (lv_at hl 1 rfl) ?_
  refine lv_aload_n hx hb dL_law_714 rfl (lv_at hl 0 rfl) ?_
  refine lv_iload_n hx hb dL_law_715 rfl (lv_at hl 3 rfl) ?_
  refine lv_iconst (v := 1) hx hb dL_law_716 (by decide) ?_
  refine lv_iadd hx hb dL_law_717 ?_
  refine va_sld hx hb hX hbl hbA hS (in_s hi (k := 1) (by decide)) dL_law_718 ?_
  obtain ⟨r1, h1, hq, hM1⟩ := CALL_met (l := l) (dC := dC) (dI := dI) (ρ := ρ) (σ := σ) (a := a) pp_X8_river (Nat.le_of_ble_eq_true rfl) (k_X8_river h hI (xs (i + 1).toNatClampNeg))
  obtain ⟨hI1, fr1, -, z1, rfl, -⟩ := hq
  refine c_L (n := 1) (v := 0) (As := [.inl (xs (i + 1).toNatClampNeg)]) (rest := []) ⟨hx, hb, hml, hown, hT⟩ hK hM hA hP hD hS pp_X8_river hM1 sh_0 mw_255 mw_256 mw_257 mw_168 (by decide +kernel) rfl ⟨Nat.le_of_ble_eq_true rfl, Nat.le_of_ble_eq_true rfl⟩ hl.1 (Nat.le_of_ble_eq_true rfl) rfl dL_law_719 ⟨Nat.le_of_ble_eq_true rfl, Nat.le_of_ble_eq_true rfl⟩ (fun H locs hP hD hS => ?_)
  have hI := hI1
  show LG p l e s m b below meth c H locs (F0 m 722 ls [.int z1])
  refine lv_pop hx hb dL_law_722 rfl ?_
  refine lv_aload_n hx hb dL_law_723 rfl (lv_at hl 2 rfl) ?_
  refine lv_aload_n hx hb dL_law_724 rfl (lv_at hl 0 rfl) ?_
  refine lv_iload_n hx hb dL_law_725 rfl (lv_at hl 3 rfl) ?_
  refine lv_iconst (v := 1) hx hb dL_law_726 (by decide) ?_
  refine lv_iadd hx hb dL_law_727 ?_
  refine va_sld hx hb hX hbl hbA hS (in_s hi (k := 1) (by decide)) dL_law_728 ?_
  obtain ⟨r2, h2, hq, hM1⟩ := CALL_met (l := l) (dC := dC) (dI := dI) (ρ := ρ) (σ := σ) (a := a) pp_X9_river (Nat.le_of_ble_eq_true rfl) (k_X9_river h1 hI (xs (i + 1).toNatClampNeg))
  obtain ⟨hI2, fr2, -, z2, rfl, -⟩ := hq
  refine c_L (n := 1) (v := 96) (As := [.inl (xs (i + 1).toNatClampNeg)]) (rest := []) ⟨hx, hb, hml, hown, hT⟩ hK hM hA hP hD hS pp_X9_river hM1 sh_96 mw_258 mw_259 mw_260 mw_173 (by decide +kernel) rfl ⟨Nat.le_of_ble_eq_true rfl, Nat.le_of_ble_eq_true rfl⟩ hl.1 (Nat.le_of_ble_eq_true rfl) rfl dL_law_729 ⟨Nat.le_of_ble_eq_true rfl, Nat.le_of_ble_eq_true rfl⟩ (fun H locs hP hD hS => ?_)
  have hI := hI2
  show LG p l e s m b below meth c H locs (F0 m 732 ls [.int z2])
  refine lv_pop hx hb dL_law_732 rfl ?_
  refine lv_goto (tgt := 2146) hx hb dL_law_733 (by decide) ?_
  exact hend _ _ _ _ hI (REL_fr fr1 fr2 (by decide) (by decide) hJ) hP hD hS hl
set_option maxRecDepth 100000 in
set_option maxHeartbeats 4000000 in
theorem lc_14 {p : Program} {l : Launch} {e : Env} {s : State} {m : MethodId} {below : List Frame} {meth : Method} {c : Code} {dC : Nat → ClassId} {dI : Nat → Nat → Nat} {b L : Nat} {xs : Nat → Int32} {H : Heap} {locs : List Loc} {ls : Array Slot} {ρ : Nat → Nat} {σ : Nat → Option Nat} {a : Nat → ClassId} {h : PH} {i : Int32} (C0 : lw_At p s m meth c b L xs) (hK : va_K (dC, dI) vwCl (tysP a) s) (hM : AMB σ (fun q : Nat => s.heap.size ≤ q) s s.heap) (hI : INV h) (hJ : REL h) (hP : va_P (dC, dI) vwCl (toW ρ a h) H) (hD : va_D (fun q : Nat => s.heap.size ≤ q) (toW ρ a h)) (hS : va_S (fun q : Nat => s.heap.size ≤ q) s.heap H locs) (hl : lv_has ls 4 [(0, .ref b), (1, .ref (ρ 0)), (2, .ref (ρ 96)), (3, .int i)]) (hi : 0 ≤ i.toInt ∧ i.toInt + 6 ≤ (L : Int) ∧ L ≤ 384) (hend : ∀ (H : Heap) (locs : List Loc) (ls : Array Slot) (h : PH), INV h → REL h → va_P (dC, dI) vwCl (toW ρ a h) H → va_D (fun q : Nat => s.heap.size ≤ q) (toW ρ a h) → va_S (fun q : Nat => s.heap.size ≤ q) s.heap H locs → lv_has ls 4 [(0, .ref b), (1, .ref (ρ 0)), (2, .ref (ρ 96)), (3, .int i)] → LG p l e s m b below meth c H locs (F0 m 2146 ls [])) : LG p l e s m b below meth c H locs (F0 m 736 ls []) := by
  obtain ⟨hx, hb, hr, hml, hown, hts, hX, hbl, hlocks, hgv⟩ := C0
  have hT : ∀ w ∈ TB, w.before #[Value.ref b] s = true := fun w h => hts w (TB_lw h)
  have hown : s.vm.findClass RL = some m.cls := hown
  have hA : ∀ q : Nat, s.heap.size ≤ q → (fun q : Nat => s.heap.size ≤ q) q := fun _ h => h
  have hbA : ¬ (fun q : Nat => s.heap.size ≤ q) b := Nat.not_le.mpr hbl
  refine lv_aload_n hx hb dL_law_736 rfl (lv_at hl 1 rfl) ?_
  refine lv_aload_n hx hb dL_law_737 rfl (lv_at hl 0 rfl) ?_
  refine lv_iload_n hx hb dL_law_738 rfl (lv_at hl 3 rfl) ?_
  refine lv_iconst (v := 1) hx hb dL_law_739 (by decide) ?_
  refine lv_iadd hx hb dL_law_740 ?_
  refine va_sld hx hb hX hbl hbA hS (in_s hi (k := 1) (by decide)) dL_law_741 ?_
  obtain ⟨r1, h1, hq, hM1⟩ := CALL_met (l := l) (dC := dC) (dI := dI) (ρ := ρ) (σ := σ) (a := a) pp_X8_thrown (Nat.le_of_ble_eq_true rfl) (k_X8_thrown h hI (xs (i + 1).toNatClampNeg))
  obtain ⟨hI1, fr1, -, z1, rfl, -⟩ := hq
  refine c_L (n := 1) (v := 0) (As := [.inl (xs (i + 1).toNatClampNeg)]) (rest := []) ⟨hx, hb, hml, hown, hT⟩ hK hM hA hP hD hS pp_X8_thrown hM1 sh_0 mw_261 mw_262 mw_263 mw_168 (by decide +kernel) rfl ⟨Nat.le_of_ble_eq_true rfl, Nat.le_of_ble_eq_true rfl⟩ hl.1 (Nat.le_of_ble_eq_true rfl) rfl dL_law_742 ⟨Nat.le_of_ble_eq_true rfl, Nat.le_of_ble_eq_true rfl⟩ (fun H locs hP hD hS => ?_)
  have hI := hI1
  show LG p l e s m b below meth c H locs (F0 m 745 ls [.int z1])
  refine lv_pop hx hb dL_law_745 rfl ?_
  refine lv_aload_n hx hb dL_law_746 rfl (lv_at hl 2 rfl) ?_
  refine lv_aload_n hx hb dL_law_747 rfl (lv_at hl 0 rfl) ?_
  refine lv_iload_n hx hb dL_law_748 rfl (lv_at hl 3 rfl) ?_
  refine lv_iconst (v := 1) hx hb dL_law_749 (by decide) ?_
  refine lv_iadd hx hb dL_law_750 ?_
  refine va_sld hx hb hX hbl hbA hS (in_s hi (k := 1) (by decide)) dL_law_751 ?_
  obtain ⟨r2, h2, hq, hM1⟩ := CALL_met (l := l) (dC := dC) (dI := dI) (ρ := ρ) (σ := σ) (a := a) pp_X9_thrown (Nat.le_of_ble_eq_true rfl) (k_X9_thrown h1 hI (xs (i + 1).toNatClampNeg))
  obtain ⟨hI2, fr2, -, z2, rfl, -⟩ := hq
  refine c_L (n := 1) (v := 96) (As := [.inl (xs (i + 1).toNatClampNeg)]) (rest := []) ⟨hx, hb, hml, hown, hT⟩ hK hM hA hP hD hS pp_X9_thrown hM1 sh_96 mw_264 mw_265 mw_266 mw_173 (by decide +kernel) rfl ⟨Nat.le_of_ble_eq_true rfl, Nat.le_of_ble_eq_true rfl⟩ hl.1 (Nat.le_of_ble_eq_true rfl) rfl dL_law_752 ⟨Nat.le_of_ble_eq_true rfl, Nat.le_of_ble_eq_true rfl⟩ (fun H locs hP hD hS => ?_)
  have hI := hI2
  show LG p l e s m b below meth c H locs (F0 m 755 ls [.int z2])
  refine lv_pop hx hb dL_law_755 rfl ?_
  refine lv_goto (tgt := 2146) hx hb dL_law_756 (by decide) ?_
  exact hend _ _ _ _ hI (REL_fr fr1 fr2 (by decide) (by decide) hJ) hP hD hS hl
set_option maxRecDepth 100000 in
set_option maxHeartbeats 4000000 in
theorem lc_15 {p : Program} {l : Launch} {e : Env} {s : State} {m : MethodId} {below : List Frame} {meth : Method} {c : Code} {dC : Nat → ClassId} {dI : Nat → Nat → Nat} {b L : Nat} {xs : Nat → Int32} {H : Heap} {locs : List Loc} {ls : Array Slot} {ρ : Nat → Nat} {σ : Nat → Option Nat} {a : Nat → ClassId} {h : PH} {i : Int32} (C0 : lw_At p s m meth c b L xs) (hK : va_K (dC, dI) vwCl (tysP a) s) (hM : AMB σ (fun q : Nat => s.heap.size ≤ q) s s.heap) (hI : INV h) (hJ : REL h) (hP : va_P (dC, dI) vwCl (toW ρ a h) H) (hD : va_D (fun q : Nat => s.heap.size ≤ q) (toW ρ a h)) (hS : va_S (fun q : Nat => s.heap.size ≤ q) s.heap H locs) (hl : lv_has ls 4 [(0, .ref b), (1, .ref (ρ 0)), (2, .ref (ρ 96)), (3, .int i)]) (hi : 0 ≤ i.toInt ∧ i.toInt + 6 ≤ (L : Int) ∧ L ≤ 384) (hend : ∀ (H : Heap) (locs : List Loc) (ls : Array Slot) (h : PH), INV h → REL h → va_P (dC, dI) vwCl (toW ρ a h) H → va_D (fun q : Nat => s.heap.size ≤ q) (toW ρ a h) → va_S (fun q : Nat => s.heap.size ≤ q) s.heap H locs → lv_has ls 4 [(0, .ref b), (1, .ref (ρ 0)), (2, .ref (ρ 96)), (3, .int i)] → LG p l e s m b below meth c H locs (F0 m 2146 ls [])) : LG p l e s m b below meth c H locs (F0 m 759 ls []) := by
  obtain ⟨hx, hb, hr, hml, hown, hts, hX, hbl, hlocks, hgv⟩ := C0
  have hT : ∀ w ∈ TB, w.before #[Value.ref b] s = true := fun w h => hts w (TB_lw h)
  have hown : s.vm.findClass RL = some m.cls := hown
  have hA : ∀ q : Nat, s.heap.size ≤ q → (fun q : Nat => s.heap.size ≤ q) q := fun _ h => h
  have hbA : ¬ (fun q : Nat => s.heap.size ≤ q) b := Nat.not_le.mpr hbl
  refine lv_aload_n hx hb dL_law_759 rfl (lv_at hl 1 rfl) ?_
  refine lv_aload_n hx hb dL_law_760 rfl (lv_at hl 0 rfl) ?_
  refine lv_iload_n hx hb dL_law_761 rfl (lv_at hl 3 rfl) ?_
  refine lv_iconst (v := 1) hx hb dL_law_762 (by decide) ?_
  refine lv_iadd hx hb dL_law_763 ?_
  refine va_sld hx hb hX hbl hbA hS (in_s hi (k := 1) (by decide)) dL_law_764 ?_
  obtain ⟨r1, h1, hq, hM1⟩ := CALL_met (l := l) (dC := dC) (dI := dI) (ρ := ρ) (σ := σ) (a := a) pp_X8_water (Nat.le_of_ble_eq_true rfl) (k_X8_water h hI (xs (i + 1).toNatClampNeg))
  obtain ⟨hI1, fr1, -, z1, rfl, -⟩ := hq
  refine c_L (n := 1) (v := 0) (As := [.inl (xs (i + 1).toNatClampNeg)]) (rest := []) ⟨hx, hb, hml, hown, hT⟩ hK hM hA hP hD hS pp_X8_water hM1 sh_0 mw_267 mw_268 mw_269 mw_168 (by decide +kernel) rfl ⟨Nat.le_of_ble_eq_true rfl, Nat.le_of_ble_eq_true rfl⟩ hl.1 (Nat.le_of_ble_eq_true rfl) rfl dL_law_765 ⟨Nat.le_of_ble_eq_true rfl, Nat.le_of_ble_eq_true rfl⟩ (fun H locs hP hD hS => ?_)
  have hI := hI1
  show LG p l e s m b below meth c H locs (F0 m 768 ls [.int z1])
  refine lv_pop hx hb dL_law_768 rfl ?_
  refine lv_aload_n hx hb dL_law_769 rfl (lv_at hl 2 rfl) ?_
  refine lv_aload_n hx hb dL_law_770 rfl (lv_at hl 0 rfl) ?_
  refine lv_iload_n hx hb dL_law_771 rfl (lv_at hl 3 rfl) ?_
  refine lv_iconst (v := 1) hx hb dL_law_772 (by decide) ?_
  refine lv_iadd hx hb dL_law_773 ?_
  refine va_sld hx hb hX hbl hbA hS (in_s hi (k := 1) (by decide)) dL_law_774 ?_
  obtain ⟨r2, h2, hq, hM1⟩ := CALL_met (l := l) (dC := dC) (dI := dI) (ρ := ρ) (σ := σ) (a := a) pp_X9_water (Nat.le_of_ble_eq_true rfl) (k_X9_water h1 hI (xs (i + 1).toNatClampNeg))
  obtain ⟨hI2, fr2, -, z2, rfl, -⟩ := hq
  refine c_L (n := 1) (v := 96) (As := [.inl (xs (i + 1).toNatClampNeg)]) (rest := []) ⟨hx, hb, hml, hown, hT⟩ hK hM hA hP hD hS pp_X9_water hM1 sh_96 mw_270 mw_271 mw_272 mw_173 (by decide +kernel) rfl ⟨Nat.le_of_ble_eq_true rfl, Nat.le_of_ble_eq_true rfl⟩ hl.1 (Nat.le_of_ble_eq_true rfl) rfl dL_law_775 ⟨Nat.le_of_ble_eq_true rfl, Nat.le_of_ble_eq_true rfl⟩ (fun H locs hP hD hS => ?_)
  have hI := hI2
  show LG p l e s m b below meth c H locs (F0 m 778 ls [.int z2])
  refine lv_pop hx hb dL_law_778 rfl ?_
  refine lv_goto (tgt := 2146) hx hb dL_law_779 (by decide) ?_
  exact hend _ _ _ _ hI (REL_fr fr1 fr2 (by decide) (by decide) hJ) hP hD hS hl
set_option maxRecDepth 100000 in
set_option maxHeartbeats 4000000 in
theorem lc_16 {p : Program} {l : Launch} {e : Env} {s : State} {m : MethodId} {below : List Frame} {meth : Method} {c : Code} {dC : Nat → ClassId} {dI : Nat → Nat → Nat} {b L : Nat} {xs : Nat → Int32} {H : Heap} {locs : List Loc} {ls : Array Slot} {ρ : Nat → Nat} {σ : Nat → Option Nat} {a : Nat → ClassId} {h : PH} {i : Int32} (C0 : lw_At p s m meth c b L xs) (hK : va_K (dC, dI) vwCl (tysP a) s) (hM : AMB σ (fun q : Nat => s.heap.size ≤ q) s s.heap) (hI : INV h) (hJ : REL h) (hP : va_P (dC, dI) vwCl (toW ρ a h) H) (hD : va_D (fun q : Nat => s.heap.size ≤ q) (toW ρ a h)) (hS : va_S (fun q : Nat => s.heap.size ≤ q) s.heap H locs) (hl : lv_has ls 4 [(0, .ref b), (1, .ref (ρ 0)), (2, .ref (ρ 96)), (3, .int i)]) (hi : 0 ≤ i.toInt ∧ i.toInt + 6 ≤ (L : Int) ∧ L ≤ 384) (hend : ∀ (H : Heap) (locs : List Loc) (ls : Array Slot) (h : PH), INV h → REL h → va_P (dC, dI) vwCl (toW ρ a h) H → va_D (fun q : Nat => s.heap.size ≤ q) (toW ρ a h) → va_S (fun q : Nat => s.heap.size ≤ q) s.heap H locs → lv_has ls 4 [(0, .ref b), (1, .ref (ρ 0)), (2, .ref (ρ 96)), (3, .int i)] → LG p l e s m b below meth c H locs (F0 m 2146 ls [])) : LG p l e s m b below meth c H locs (F0 m 782 ls []) := by
  obtain ⟨hx, hb, hr, hml, hown, hts, hX, hbl, hlocks, hgv⟩ := C0
  have hT : ∀ w ∈ TB, w.before #[Value.ref b] s = true := fun w h => hts w (TB_lw h)
  have hown : s.vm.findClass RL = some m.cls := hown
  have hA : ∀ q : Nat, s.heap.size ≤ q → (fun q : Nat => s.heap.size ≤ q) q := fun _ h => h
  have hbA : ¬ (fun q : Nat => s.heap.size ≤ q) b := Nat.not_le.mpr hbl
  refine lv_aload_n hx hb dL_law_782 rfl (lv_at hl 1 rfl) ?_
  refine lv_aload_n hx hb dL_law_783 rfl (lv_at hl 0 rfl) ?_
  refine lv_iload_n hx hb dL_law_784 rfl (lv_at hl 3 rfl) ?_
  refine lv_iconst (v := 1) hx hb dL_law_785 (by decide) ?_
  refine lv_iadd hx hb dL_law_786 ?_
  refine va_sld hx hb hX hbl hbA hS (in_s hi (k := 1) (by decide)) dL_law_787 ?_
  obtain ⟨r1, h1, hq, hM1⟩ := CALL_met (l := l) (dC := dC) (dI := dI) (ρ := ρ) (σ := σ) (a := a) pp_X8_spilt (Nat.le_of_ble_eq_true rfl) (k_X8_spilt h hI (xs (i + 1).toNatClampNeg))
  obtain ⟨hI1, fr1, -, z1, rfl, -⟩ := hq
  refine c_L (n := 1) (v := 0) (As := [.inl (xs (i + 1).toNatClampNeg)]) (rest := []) ⟨hx, hb, hml, hown, hT⟩ hK hM hA hP hD hS pp_X8_spilt hM1 sh_0 mw_273 mw_274 mw_275 mw_168 (by decide +kernel) rfl ⟨Nat.le_of_ble_eq_true rfl, Nat.le_of_ble_eq_true rfl⟩ hl.1 (Nat.le_of_ble_eq_true rfl) rfl dL_law_788 ⟨Nat.le_of_ble_eq_true rfl, Nat.le_of_ble_eq_true rfl⟩ (fun H locs hP hD hS => ?_)
  have hI := hI1
  show LG p l e s m b below meth c H locs (F0 m 791 ls [.int z1])
  refine lv_pop hx hb dL_law_791 rfl ?_
  refine lv_aload_n hx hb dL_law_792 rfl (lv_at hl 2 rfl) ?_
  refine lv_aload_n hx hb dL_law_793 rfl (lv_at hl 0 rfl) ?_
  refine lv_iload_n hx hb dL_law_794 rfl (lv_at hl 3 rfl) ?_
  refine lv_iconst (v := 1) hx hb dL_law_795 (by decide) ?_
  refine lv_iadd hx hb dL_law_796 ?_
  refine va_sld hx hb hX hbl hbA hS (in_s hi (k := 1) (by decide)) dL_law_797 ?_
  obtain ⟨r2, h2, hq, hM1⟩ := CALL_met (l := l) (dC := dC) (dI := dI) (ρ := ρ) (σ := σ) (a := a) pp_X9_spilt (Nat.le_of_ble_eq_true rfl) (k_X9_spilt h1 hI (xs (i + 1).toNatClampNeg))
  obtain ⟨hI2, fr2, -, z2, rfl, -⟩ := hq
  refine c_L (n := 1) (v := 96) (As := [.inl (xs (i + 1).toNatClampNeg)]) (rest := []) ⟨hx, hb, hml, hown, hT⟩ hK hM hA hP hD hS pp_X9_spilt hM1 sh_96 mw_276 mw_277 mw_278 mw_173 (by decide +kernel) rfl ⟨Nat.le_of_ble_eq_true rfl, Nat.le_of_ble_eq_true rfl⟩ hl.1 (Nat.le_of_ble_eq_true rfl) rfl dL_law_798 ⟨Nat.le_of_ble_eq_true rfl, Nat.le_of_ble_eq_true rfl⟩ (fun H locs hP hD hS => ?_)
  have hI := hI2
  show LG p l e s m b below meth c H locs (F0 m 801 ls [.int z2])
  refine lv_pop hx hb dL_law_801 rfl ?_
  refine lv_goto (tgt := 2146) hx hb dL_law_802 (by decide) ?_
  exact hend _ _ _ _ hI (REL_fr fr1 fr2 (by decide) (by decide) hJ) hP hD hS hl
set_option maxRecDepth 100000 in
set_option maxHeartbeats 4000000 in
theorem lc_17 {p : Program} {l : Launch} {e : Env} {s : State} {m : MethodId} {below : List Frame} {meth : Method} {c : Code} {dC : Nat → ClassId} {dI : Nat → Nat → Nat} {b L : Nat} {xs : Nat → Int32} {H : Heap} {locs : List Loc} {ls : Array Slot} {ρ : Nat → Nat} {σ : Nat → Option Nat} {a : Nat → ClassId} {h : PH} {i : Int32} (C0 : lw_At p s m meth c b L xs) (hK : va_K (dC, dI) vwCl (tysP a) s) (hM : AMB σ (fun q : Nat => s.heap.size ≤ q) s s.heap) (hI : INV h) (hJ : REL h) (hP : va_P (dC, dI) vwCl (toW ρ a h) H) (hD : va_D (fun q : Nat => s.heap.size ≤ q) (toW ρ a h)) (hS : va_S (fun q : Nat => s.heap.size ≤ q) s.heap H locs) (hl : lv_has ls 4 [(0, .ref b), (1, .ref (ρ 0)), (2, .ref (ρ 96)), (3, .int i)]) (hi : 0 ≤ i.toInt ∧ i.toInt + 6 ≤ (L : Int) ∧ L ≤ 384) (hend : ∀ (H : Heap) (locs : List Loc) (ls : Array Slot) (h : PH), INV h → REL h → va_P (dC, dI) vwCl (toW ρ a h) H → va_D (fun q : Nat => s.heap.size ≤ q) (toW ρ a h) → va_S (fun q : Nat => s.heap.size ≤ q) s.heap H locs → lv_has ls 4 [(0, .ref b), (1, .ref (ρ 0)), (2, .ref (ρ 96)), (3, .int i)] → LG p l e s m b below meth c H locs (F0 m 2146 ls [])) : LG p l e s m b below meth c H locs (F0 m 805 ls []) := by
  obtain ⟨hx, hb, hr, hml, hown, hts, hX, hbl, hlocks, hgv⟩ := C0
  have hT : ∀ w ∈ TB, w.before #[Value.ref b] s = true := fun w h => hts w (TB_lw h)
  have hown : s.vm.findClass RL = some m.cls := hown
  have hA : ∀ q : Nat, s.heap.size ≤ q → (fun q : Nat => s.heap.size ≤ q) q := fun _ h => h
  have hbA : ¬ (fun q : Nat => s.heap.size ≤ q) b := Nat.not_le.mpr hbl
  refine lv_aload_n hx hb dL_law_805 rfl (lv_at hl 1 rfl) ?_
  refine lv_aload_n hx hb dL_law_806 rfl (lv_at hl 0 rfl) ?_
  refine lv_iload_n hx hb dL_law_807 rfl (lv_at hl 3 rfl) ?_
  refine lv_iconst (v := 1) hx hb dL_law_808 (by decide) ?_
  refine lv_iadd hx hb dL_law_809 ?_
  refine va_sld hx hb hX hbl hbA hS (in_s hi (k := 1) (by decide)) dL_law_810 ?_
  obtain ⟨r1, h1, hq, hM1⟩ := CALL_met (l := l) (dC := dC) (dI := dI) (ρ := ρ) (σ := σ) (a := a) pp_X8_fire (Nat.le_of_ble_eq_true rfl) (k_X8_fire h hI (xs (i + 1).toNatClampNeg))
  obtain ⟨hI1, fr1, -, z1, rfl, -⟩ := hq
  refine c_L (n := 1) (v := 0) (As := [.inl (xs (i + 1).toNatClampNeg)]) (rest := []) ⟨hx, hb, hml, hown, hT⟩ hK hM hA hP hD hS pp_X8_fire hM1 sh_0 mw_279 mw_280 mw_281 mw_168 (by decide +kernel) rfl ⟨Nat.le_of_ble_eq_true rfl, Nat.le_of_ble_eq_true rfl⟩ hl.1 (Nat.le_of_ble_eq_true rfl) rfl dL_law_811 ⟨Nat.le_of_ble_eq_true rfl, Nat.le_of_ble_eq_true rfl⟩ (fun H locs hP hD hS => ?_)
  have hI := hI1
  show LG p l e s m b below meth c H locs (F0 m 814 ls [.int z1])
  refine lv_pop hx hb dL_law_814 rfl ?_
  refine lv_aload_n hx hb dL_law_815 rfl (lv_at hl 2 rfl) ?_
  refine lv_aload_n hx hb dL_law_816 rfl (lv_at hl 0 rfl) ?_
  refine lv_iload_n hx hb dL_law_817 rfl (lv_at hl 3 rfl) ?_
  refine lv_iconst (v := 1) hx hb dL_law_818 (by decide) ?_
  refine lv_iadd hx hb dL_law_819 ?_
  refine va_sld hx hb hX hbl hbA hS (in_s hi (k := 1) (by decide)) dL_law_820 ?_
  obtain ⟨r2, h2, hq, hM1⟩ := CALL_met (l := l) (dC := dC) (dI := dI) (ρ := ρ) (σ := σ) (a := a) pp_X9_fire (Nat.le_of_ble_eq_true rfl) (k_X9_fire h1 hI (xs (i + 1).toNatClampNeg))
  obtain ⟨hI2, fr2, -, z2, rfl, -⟩ := hq
  refine c_L (n := 1) (v := 96) (As := [.inl (xs (i + 1).toNatClampNeg)]) (rest := []) ⟨hx, hb, hml, hown, hT⟩ hK hM hA hP hD hS pp_X9_fire hM1 sh_96 mw_282 mw_283 mw_284 mw_173 (by decide +kernel) rfl ⟨Nat.le_of_ble_eq_true rfl, Nat.le_of_ble_eq_true rfl⟩ hl.1 (Nat.le_of_ble_eq_true rfl) rfl dL_law_821 ⟨Nat.le_of_ble_eq_true rfl, Nat.le_of_ble_eq_true rfl⟩ (fun H locs hP hD hS => ?_)
  have hI := hI2
  show LG p l e s m b below meth c H locs (F0 m 824 ls [.int z2])
  refine lv_pop hx hb dL_law_824 rfl ?_
  refine lv_goto (tgt := 2146) hx hb dL_law_825 (by decide) ?_
  exact hend _ _ _ _ hI (REL_fr fr1 fr2 (by decide) (by decide) hJ) hP hD hS hl
set_option maxRecDepth 100000 in
set_option maxHeartbeats 4000000 in
theorem lc_18 {p : Program} {l : Launch} {e : Env} {s : State} {m : MethodId} {below : List Frame} {meth : Method} {c : Code} {dC : Nat → ClassId} {dI : Nat → Nat → Nat} {b L : Nat} {xs : Nat → Int32} {H : Heap} {locs : List Loc} {ls : Array Slot} {ρ : Nat → Nat} {σ : Nat → Option Nat} {a : Nat → ClassId} {h : PH} {i : Int32} (C0 : lw_At p s m meth c b L xs) (hK : va_K (dC, dI) vwCl (tysP a) s) (hM : AMB σ (fun q : Nat => s.heap.size ≤ q) s s.heap) (hI : INV h) (hJ : REL h) (hP : va_P (dC, dI) vwCl (toW ρ a h) H) (hD : va_D (fun q : Nat => s.heap.size ≤ q) (toW ρ a h)) (hS : va_S (fun q : Nat => s.heap.size ≤ q) s.heap H locs) (hl : lv_has ls 4 [(0, .ref b), (1, .ref (ρ 0)), (2, .ref (ρ 96)), (3, .int i)]) (hi : 0 ≤ i.toInt ∧ i.toInt + 6 ≤ (L : Int) ∧ L ≤ 384) (hend : ∀ (H : Heap) (locs : List Loc) (ls : Array Slot) (h : PH), INV h → REL h → va_P (dC, dI) vwCl (toW ρ a h) H → va_D (fun q : Nat => s.heap.size ≤ q) (toW ρ a h) → va_S (fun q : Nat => s.heap.size ≤ q) s.heap H locs → lv_has ls 4 [(0, .ref b), (1, .ref (ρ 0)), (2, .ref (ρ 96)), (3, .int i)] → LG p l e s m b below meth c H locs (F0 m 2146 ls [])) : LG p l e s m b below meth c H locs (F0 m 828 ls []) := by
  obtain ⟨hx, hb, hr, hml, hown, hts, hX, hbl, hlocks, hgv⟩ := C0
  have hT : ∀ w ∈ TB, w.before #[Value.ref b] s = true := fun w h => hts w (TB_lw h)
  have hown : s.vm.findClass RL = some m.cls := hown
  have hA : ∀ q : Nat, s.heap.size ≤ q → (fun q : Nat => s.heap.size ≤ q) q := fun _ h => h
  have hbA : ¬ (fun q : Nat => s.heap.size ≤ q) b := Nat.not_le.mpr hbl
  refine lv_aload_n hx hb dL_law_828 rfl (lv_at hl 1 rfl) ?_
  obtain ⟨r1, h1, hq, hM1⟩ := CALL_met (l := l) (dC := dC) (dI := dI) (ρ := ρ) (σ := σ) (a := a) pp_X8_out (Nat.le_of_ble_eq_true rfl) (k_X8_out h hI )
  obtain ⟨hI1, fr1, -, z1, rfl, -⟩ := hq
  refine c_L (n := 0) (v := 0) (As := []) (rest := []) ⟨hx, hb, hml, hown, hT⟩ hK hM hA hP hD hS pp_X8_out hM1 sh_0 mw_285 mw_286 mw_287 mw_168 (by decide +kernel) rfl ⟨Nat.le_of_ble_eq_true rfl, Nat.le_of_ble_eq_true rfl⟩ hl.1 (Nat.le_of_ble_eq_true rfl) rfl dL_law_829 ⟨Nat.le_of_ble_eq_true rfl, Nat.le_of_ble_eq_true rfl⟩ (fun H locs hP hD hS => ?_)
  have hI := hI1
  show LG p l e s m b below meth c H locs (F0 m 832 ls [.int z1])
  refine lv_pop hx hb dL_law_832 rfl ?_
  refine lv_aload_n hx hb dL_law_833 rfl (lv_at hl 2 rfl) ?_
  obtain ⟨r2, h2, hq, hM1⟩ := CALL_met (l := l) (dC := dC) (dI := dI) (ρ := ρ) (σ := σ) (a := a) pp_X9_out (Nat.le_of_ble_eq_true rfl) (k_X9_out h1 hI )
  obtain ⟨hI2, fr2, -, z2, rfl, -⟩ := hq
  refine c_L (n := 0) (v := 96) (As := []) (rest := []) ⟨hx, hb, hml, hown, hT⟩ hK hM hA hP hD hS pp_X9_out hM1 sh_96 mw_288 mw_289 mw_290 mw_173 (by decide +kernel) rfl ⟨Nat.le_of_ble_eq_true rfl, Nat.le_of_ble_eq_true rfl⟩ hl.1 (Nat.le_of_ble_eq_true rfl) rfl dL_law_834 ⟨Nat.le_of_ble_eq_true rfl, Nat.le_of_ble_eq_true rfl⟩ (fun H locs hP hD hS => ?_)
  have hI := hI2
  show LG p l e s m b below meth c H locs (F0 m 837 ls [.int z2])
  refine lv_pop hx hb dL_law_837 rfl ?_
  refine lv_goto (tgt := 2146) hx hb dL_law_838 (by decide) ?_
  exact hend _ _ _ _ hI (REL_fr fr1 fr2 (by decide) (by decide) hJ) hP hD hS hl
set_option maxRecDepth 100000 in
set_option maxHeartbeats 4000000 in
theorem lc_19 {p : Program} {l : Launch} {e : Env} {s : State} {m : MethodId} {below : List Frame} {meth : Method} {c : Code} {dC : Nat → ClassId} {dI : Nat → Nat → Nat} {b L : Nat} {xs : Nat → Int32} {H : Heap} {locs : List Loc} {ls : Array Slot} {ρ : Nat → Nat} {σ : Nat → Option Nat} {a : Nat → ClassId} {h : PH} {i : Int32} (C0 : lw_At p s m meth c b L xs) (hK : va_K (dC, dI) vwCl (tysP a) s) (hM : AMB σ (fun q : Nat => s.heap.size ≤ q) s s.heap) (hI : INV h) (hJ : REL h) (hP : va_P (dC, dI) vwCl (toW ρ a h) H) (hD : va_D (fun q : Nat => s.heap.size ≤ q) (toW ρ a h)) (hS : va_S (fun q : Nat => s.heap.size ≤ q) s.heap H locs) (hl : lv_has ls 4 [(0, .ref b), (1, .ref (ρ 0)), (2, .ref (ρ 96)), (3, .int i)]) (hi : 0 ≤ i.toInt ∧ i.toInt + 6 ≤ (L : Int) ∧ L ≤ 384) (hend : ∀ (H : Heap) (locs : List Loc) (ls : Array Slot) (h : PH), INV h → REL h → va_P (dC, dI) vwCl (toW ρ a h) H → va_D (fun q : Nat => s.heap.size ≤ q) (toW ρ a h) → va_S (fun q : Nat => s.heap.size ≤ q) s.heap H locs → lv_has ls 4 [(0, .ref b), (1, .ref (ρ 0)), (2, .ref (ρ 96)), (3, .int i)] → LG p l e s m b below meth c H locs (F0 m 2146 ls [])) : LG p l e s m b below meth c H locs (F0 m 841 ls []) := by
  obtain ⟨hx, hb, hr, hml, hown, hts, hX, hbl, hlocks, hgv⟩ := C0
  have hT : ∀ w ∈ TB, w.before #[Value.ref b] s = true := fun w h => hts w (TB_lw h)
  have hown : s.vm.findClass RL = some m.cls := hown
  have hA : ∀ q : Nat, s.heap.size ≤ q → (fun q : Nat => s.heap.size ≤ q) q := fun _ h => h
  have hbA : ¬ (fun q : Nat => s.heap.size ≤ q) b := Nat.not_le.mpr hbl
  refine lv_aload_n hx hb dL_law_841 rfl (lv_at hl 1 rfl) ?_
  obtain ⟨r1, h1, hq, hM1⟩ := CALL_met (l := l) (dC := dC) (dI := dI) (ρ := ρ) (σ := σ) (a := a) pp_X8_worst (Nat.le_of_ble_eq_true rfl) (k_X8_worst h hI )
  obtain ⟨hI1, fr1, -, z1, rfl, -⟩ := hq
  refine c_L (n := 0) (v := 0) (As := []) (rest := []) ⟨hx, hb, hml, hown, hT⟩ hK hM hA hP hD hS pp_X8_worst hM1 sh_0 mw_291 mw_292 mw_293 mw_168 (by decide +kernel) rfl ⟨Nat.le_of_ble_eq_true rfl, Nat.le_of_ble_eq_true rfl⟩ hl.1 (Nat.le_of_ble_eq_true rfl) rfl dL_law_842 ⟨Nat.le_of_ble_eq_true rfl, Nat.le_of_ble_eq_true rfl⟩ (fun H locs hP hD hS => ?_)
  have hI := hI1
  show LG p l e s m b below meth c H locs (F0 m 845 ls [.int z1])
  refine lv_pop hx hb dL_law_845 rfl ?_
  refine lv_aload_n hx hb dL_law_846 rfl (lv_at hl 2 rfl) ?_
  obtain ⟨r2, h2, hq, hM1⟩ := CALL_met (l := l) (dC := dC) (dI := dI) (ρ := ρ) (σ := σ) (a := a) pp_X9_worst (Nat.le_of_ble_eq_true rfl) (k_X9_worst h1 hI )
  obtain ⟨hI2, fr2, -, z2, rfl, -⟩ := hq
  refine c_L (n := 0) (v := 96) (As := []) (rest := []) ⟨hx, hb, hml, hown, hT⟩ hK hM hA hP hD hS pp_X9_worst hM1 sh_96 mw_294 mw_295 mw_296 mw_173 (by decide +kernel) rfl ⟨Nat.le_of_ble_eq_true rfl, Nat.le_of_ble_eq_true rfl⟩ hl.1 (Nat.le_of_ble_eq_true rfl) rfl dL_law_847 ⟨Nat.le_of_ble_eq_true rfl, Nat.le_of_ble_eq_true rfl⟩ (fun H locs hP hD hS => ?_)
  have hI := hI2
  show LG p l e s m b below meth c H locs (F0 m 850 ls [.int z2])
  refine lv_pop hx hb dL_law_850 rfl ?_
  refine lv_goto (tgt := 2146) hx hb dL_law_851 (by decide) ?_
  exact hend _ _ _ _ hI (REL_fr fr1 fr2 (by decide) (by decide) hJ) hP hD hS hl

set_option maxRecDepth 100000 in
set_option maxHeartbeats 4000000 in
theorem lc_20 {p : Program} {l : Launch} {e : Env} {s : State} {m : MethodId} {below : List Frame} {meth : Method} {c : Code} {dC : Nat → ClassId} {dI : Nat → Nat → Nat} {b L : Nat} {xs : Nat → Int32} {H : Heap} {locs : List Loc} {ls : Array Slot} {ρ : Nat → Nat} {σ : Nat → Option Nat} {a : Nat → ClassId} {h : PH} {i : Int32} (C0 : lw_At p s m meth c b L xs) (hK : va_K (dC, dI) vwCl (tysP a) s) (hM : AMB σ (fun q : Nat => s.heap.size ≤ q) s s.heap) (hI : INV h) (hJ : REL h) (hP : va_P (dC, dI) vwCl (toW ρ a h) H) (hD : va_D (fun q : Nat => s.heap.size ≤ q) (toW ρ a h)) (hS : va_S (fun q : Nat => s.heap.size ≤ q) s.heap H locs) (hl : lv_has ls 4 [(0, .ref b), (1, .ref (ρ 0)), (2, .ref (ρ 96)), (3, .int i)]) (hi : 0 ≤ i.toInt ∧ i.toInt + 6 ≤ (L : Int) ∧ L ≤ 384) (hend : ∀ (H : Heap) (locs : List Loc) (ls : Array Slot) (h : PH), INV h → REL h → va_P (dC, dI) vwCl (toW ρ a h) H → va_D (fun q : Nat => s.heap.size ≤ q) (toW ρ a h) → va_S (fun q : Nat => s.heap.size ≤ q) s.heap H locs → lv_has ls 4 [(0, .ref b), (1, .ref (ρ 0)), (2, .ref (ρ 96)), (3, .int i)] → LG p l e s m b below meth c H locs (F0 m 2146 ls [])) : LG p l e s m b below meth c H locs (F0 m 854 ls []) := by
  obtain ⟨hx, hb, hr, hml, hown, hts, hX, hbl, hlocks, hgv⟩ := C0
  have hT : ∀ w ∈ TB, w.before #[Value.ref b] s = true := fun w h => hts w (TB_lw h)
  have hown : s.vm.findClass RL = some m.cls := hown
  have hA : ∀ q : Nat, s.heap.size ≤ q → (fun q : Nat => s.heap.size ≤ q) q := fun _ h => h
  have hbA : ¬ (fun q : Nat => s.heap.size ≤ q) b := Nat.not_le.mpr hbl
  refine lv_aload_n hx hb dL_law_854 rfl (lv_at hl 1 rfl) ?_
  refine lv_aload_n hx hb dL_law_855 rfl (lv_at hl 0 rfl) ?_
  refine lv_iload_n hx hb dL_law_856 rfl (lv_at hl 3 rfl) ?_
  refine lv_iconst (v := 1) hx hb dL_law_857 (by decide) ?_
  refine lv_iadd hx hb dL_law_858 ?_
  refine va_sld hx hb hX hbl hbA hS (in_s hi (k := 1) (by decide)) dL_law_859 ?_
  obtain ⟨r1, h1, hq, hM1⟩ := CALL_met (l := l) (dC := dC) (dI := dI) (ρ := ρ) (σ := σ) (a := a) pp_X8_when (Nat.le_of_ble_eq_true rfl) (k_X8_when h hI (xs (i + 1).toNatClampNeg))
  obtain ⟨hI1, fr1, -, z1, rfl, -⟩ := hq
  refine c_L (n := 1) (v := 0) (As := [.inl (xs (i + 1).toNatClampNeg)]) (rest := []) ⟨hx, hb, hml, hown, hT⟩ hK hM hA hP hD hS pp_X8_when hM1 sh_0 mw_297 mw_298 mw_299 mw_168 (by decide +kernel) rfl ⟨Nat.le_of_ble_eq_true rfl, Nat.le_of_ble_eq_true rfl⟩ hl.1 (Nat.le_of_ble_eq_true rfl) rfl dL_law_860 ⟨Nat.le_of_ble_eq_true rfl, Nat.le_of_ble_eq_true rfl⟩ (fun H locs hP hD hS => ?_)
  have hI := hI1
  show LG p l e s m b below meth c H locs (F0 m 863 ls [.int z1])
  refine lv_pop hx hb dL_law_863 rfl ?_
  refine lv_aload_n hx hb dL_law_864 rfl (lv_at hl 2 rfl) ?_
  refine lv_aload_n hx hb dL_law_865 rfl (lv_at hl 0 rfl) ?_
  refine lv_iload_n hx hb dL_law_866 rfl (lv_at hl 3 rfl) ?_
  refine lv_iconst (v := 1) hx hb dL_law_867 (by decide) ?_
  refine lv_iadd hx hb dL_law_868 ?_
  refine va_sld hx hb hX hbl hbA hS (in_s hi (k := 1) (by decide)) dL_law_869 ?_
  obtain ⟨r2, h2, hq, hM1⟩ := CALL_met (l := l) (dC := dC) (dI := dI) (ρ := ρ) (σ := σ) (a := a) pp_X9_when (Nat.le_of_ble_eq_true rfl) (k_X9_when h1 hI (xs (i + 1).toNatClampNeg))
  obtain ⟨hI2, fr2, -, z2, rfl, -⟩ := hq
  refine c_L (n := 1) (v := 96) (As := [.inl (xs (i + 1).toNatClampNeg)]) (rest := []) ⟨hx, hb, hml, hown, hT⟩ hK hM hA hP hD hS pp_X9_when hM1 sh_96 mw_300 mw_301 mw_302 mw_173 (by decide +kernel) rfl ⟨Nat.le_of_ble_eq_true rfl, Nat.le_of_ble_eq_true rfl⟩ hl.1 (Nat.le_of_ble_eq_true rfl) rfl dL_law_870 ⟨Nat.le_of_ble_eq_true rfl, Nat.le_of_ble_eq_true rfl⟩ (fun H locs hP hD hS => ?_)
  have hI := hI2
  show LG p l e s m b below meth c H locs (F0 m 873 ls [.int z2])
  refine lv_pop hx hb dL_law_873 rfl ?_
  refine lv_goto (tgt := 2146) hx hb dL_law_874 (by decide) ?_
  exact hend _ _ _ _ hI (REL_fr fr1 fr2 (by decide) (by decide) hJ) hP hD hS hl
set_option maxRecDepth 100000 in
set_option maxHeartbeats 4000000 in
theorem lc_21 {p : Program} {l : Launch} {e : Env} {s : State} {m : MethodId} {below : List Frame} {meth : Method} {c : Code} {dC : Nat → ClassId} {dI : Nat → Nat → Nat} {b L : Nat} {xs : Nat → Int32} {H : Heap} {locs : List Loc} {ls : Array Slot} {ρ : Nat → Nat} {σ : Nat → Option Nat} {a : Nat → ClassId} {h : PH} {i : Int32} (C0 : lw_At p s m meth c b L xs) (hK : va_K (dC, dI) vwCl (tysP a) s) (hM : AMB σ (fun q : Nat => s.heap.size ≤ q) s s.heap) (hI : INV h) (hJ : REL h) (hP : va_P (dC, dI) vwCl (toW ρ a h) H) (hD : va_D (fun q : Nat => s.heap.size ≤ q) (toW ρ a h)) (hS : va_S (fun q : Nat => s.heap.size ≤ q) s.heap H locs) (hl : lv_has ls 4 [(0, .ref b), (1, .ref (ρ 0)), (2, .ref (ρ 96)), (3, .int i)]) (hi : 0 ≤ i.toInt ∧ i.toInt + 6 ≤ (L : Int) ∧ L ≤ 384) (hend : ∀ (H : Heap) (locs : List Loc) (ls : Array Slot) (h : PH), INV h → REL h → va_P (dC, dI) vwCl (toW ρ a h) H → va_D (fun q : Nat => s.heap.size ≤ q) (toW ρ a h) → va_S (fun q : Nat => s.heap.size ≤ q) s.heap H locs → lv_has ls 4 [(0, .ref b), (1, .ref (ρ 0)), (2, .ref (ρ 96)), (3, .int i)] → LG p l e s m b below meth c H locs (F0 m 2146 ls [])) : LG p l e s m b below meth c H locs (F0 m 877 ls []) := by
  obtain ⟨hx, hb, hr, hml, hown, hts, hX, hbl, hlocks, hgv⟩ := C0
  have hT : ∀ w ∈ TB, w.before #[Value.ref b] s = true := fun w h => hts w (TB_lw h)
  have hown : s.vm.findClass RL = some m.cls := hown
  have hA : ∀ q : Nat, s.heap.size ≤ q → (fun q : Nat => s.heap.size ≤ q) q := fun _ h => h
  have hbA : ¬ (fun q : Nat => s.heap.size ≤ q) b := Nat.not_le.mpr hbl
  refine lv_aload_n hx hb dL_law_877 rfl (lv_at hl 1 rfl) ?_
  obtain ⟨r1, h1, hq, hM1⟩ := CALL_met (l := l) (dC := dC) (dI := dI) (ρ := ρ) (σ := σ) (a := a) pp_X8_gap (Nat.le_of_ble_eq_true rfl) (k_X8_gap h hI )
  obtain ⟨hI1, fr1, -, z1, rfl, -⟩ := hq
  refine c_L (n := 0) (v := 0) (As := []) (rest := []) ⟨hx, hb, hml, hown, hT⟩ hK hM hA hP hD hS pp_X8_gap hM1 sh_0 mw_303 mw_304 mw_305 mw_168 (by decide +kernel) rfl ⟨Nat.le_of_ble_eq_true rfl, Nat.le_of_ble_eq_true rfl⟩ hl.1 (Nat.le_of_ble_eq_true rfl) rfl dL_law_878 ⟨Nat.le_of_ble_eq_true rfl, Nat.le_of_ble_eq_true rfl⟩ (fun H locs hP hD hS => ?_)
  have hI := hI1
  show LG p l e s m b below meth c H locs (F0 m 881 ls [.int z1])
  refine lv_pop hx hb dL_law_881 rfl ?_
  refine lv_aload_n hx hb dL_law_882 rfl (lv_at hl 2 rfl) ?_
  obtain ⟨r2, h2, hq, hM1⟩ := CALL_met (l := l) (dC := dC) (dI := dI) (ρ := ρ) (σ := σ) (a := a) pp_X9_gap (Nat.le_of_ble_eq_true rfl) (k_X9_gap h1 hI )
  obtain ⟨hI2, fr2, -, z2, rfl, -⟩ := hq
  refine c_L (n := 0) (v := 96) (As := []) (rest := []) ⟨hx, hb, hml, hown, hT⟩ hK hM hA hP hD hS pp_X9_gap hM1 sh_96 mw_306 mw_307 mw_308 mw_173 (by decide +kernel) rfl ⟨Nat.le_of_ble_eq_true rfl, Nat.le_of_ble_eq_true rfl⟩ hl.1 (Nat.le_of_ble_eq_true rfl) rfl dL_law_883 ⟨Nat.le_of_ble_eq_true rfl, Nat.le_of_ble_eq_true rfl⟩ (fun H locs hP hD hS => ?_)
  have hI := hI2
  show LG p l e s m b below meth c H locs (F0 m 886 ls [.int z2])
  refine lv_pop hx hb dL_law_886 rfl ?_
  refine lv_goto (tgt := 2146) hx hb dL_law_887 (by decide) ?_
  exact hend _ _ _ _ hI (REL_fr fr1 fr2 (by decide) (by decide) hJ) hP hD hS hl
set_option maxRecDepth 100000 in
set_option maxHeartbeats 4000000 in
theorem lc_22 {p : Program} {l : Launch} {e : Env} {s : State} {m : MethodId} {below : List Frame} {meth : Method} {c : Code} {dC : Nat → ClassId} {dI : Nat → Nat → Nat} {b L : Nat} {xs : Nat → Int32} {H : Heap} {locs : List Loc} {ls : Array Slot} {ρ : Nat → Nat} {σ : Nat → Option Nat} {a : Nat → ClassId} {h : PH} {i : Int32} (C0 : lw_At p s m meth c b L xs) (hK : va_K (dC, dI) vwCl (tysP a) s) (hM : AMB σ (fun q : Nat => s.heap.size ≤ q) s s.heap) (hI : INV h) (hJ : REL h) (hP : va_P (dC, dI) vwCl (toW ρ a h) H) (hD : va_D (fun q : Nat => s.heap.size ≤ q) (toW ρ a h)) (hS : va_S (fun q : Nat => s.heap.size ≤ q) s.heap H locs) (hl : lv_has ls 4 [(0, .ref b), (1, .ref (ρ 0)), (2, .ref (ρ 96)), (3, .int i)]) (hi : 0 ≤ i.toInt ∧ i.toInt + 6 ≤ (L : Int) ∧ L ≤ 384) (hend : ∀ (H : Heap) (locs : List Loc) (ls : Array Slot) (h : PH), INV h → REL h → va_P (dC, dI) vwCl (toW ρ a h) H → va_D (fun q : Nat => s.heap.size ≤ q) (toW ρ a h) → va_S (fun q : Nat => s.heap.size ≤ q) s.heap H locs → lv_has ls 4 [(0, .ref b), (1, .ref (ρ 0)), (2, .ref (ρ 96)), (3, .int i)] → LG p l e s m b below meth c H locs (F0 m 2146 ls [])) : LG p l e s m b below meth c H locs (F0 m 890 ls []) := by
  obtain ⟨hx, hb, hr, hml, hown, hts, hX, hbl, hlocks, hgv⟩ := C0
  have hT : ∀ w ∈ TB, w.before #[Value.ref b] s = true := fun w h => hts w (TB_lw h)
  have hown : s.vm.findClass RL = some m.cls := hown
  have hA : ∀ q : Nat, s.heap.size ≤ q → (fun q : Nat => s.heap.size ≤ q) q := fun _ h => h
  have hbA : ¬ (fun q : Nat => s.heap.size ≤ q) b := Nat.not_le.mpr hbl
  refine lv_aload_n hx hb dL_law_890 rfl (lv_at hl 1 rfl) ?_
  refine lv_aload_n hx hb dL_law_891 rfl (lv_at hl 0 rfl) ?_
  refine lv_iload_n hx hb dL_law_892 rfl (lv_at hl 3 rfl) ?_
  refine lv_iconst (v := 1) hx hb dL_law_893 (by decide) ?_
  refine lv_iadd hx hb dL_law_894 ?_
  refine va_sld hx hb hX hbl hbA hS (in_s hi (k := 1) (by decide)) dL_law_895 ?_
  obtain ⟨r1, h1, hq, hM1⟩ := CALL_met (l := l) (dC := dC) (dI := dI) (ρ := ρ) (σ := σ) (a := a) pp_X8_ready (Nat.le_of_ble_eq_true rfl) (k_X8_ready h hI (xs (i + 1).toNatClampNeg))
  obtain ⟨hI1, fr1, -, z1, rfl, -⟩ := hq
  refine c_L (n := 1) (v := 0) (As := [.inl (xs (i + 1).toNatClampNeg)]) (rest := []) ⟨hx, hb, hml, hown, hT⟩ hK hM hA hP hD hS pp_X8_ready hM1 sh_0 mw_309 mw_310 mw_311 mw_168 (by decide +kernel) rfl ⟨Nat.le_of_ble_eq_true rfl, Nat.le_of_ble_eq_true rfl⟩ hl.1 (Nat.le_of_ble_eq_true rfl) rfl dL_law_896 ⟨Nat.le_of_ble_eq_true rfl, Nat.le_of_ble_eq_true rfl⟩ (fun H locs hP hD hS => ?_)
  have hI := hI1
  show LG p l e s m b below meth c H locs (F0 m 899 ls [.int z1])
  refine lv_pop hx hb dL_law_899 rfl ?_
  refine lv_aload_n hx hb dL_law_900 rfl (lv_at hl 2 rfl) ?_
  refine lv_aload_n hx hb dL_law_901 rfl (lv_at hl 0 rfl) ?_
  refine lv_iload_n hx hb dL_law_902 rfl (lv_at hl 3 rfl) ?_
  refine lv_iconst (v := 1) hx hb dL_law_903 (by decide) ?_
  refine lv_iadd hx hb dL_law_904 ?_
  refine va_sld hx hb hX hbl hbA hS (in_s hi (k := 1) (by decide)) dL_law_905 ?_
  obtain ⟨r2, h2, hq, hM1⟩ := CALL_met (l := l) (dC := dC) (dI := dI) (ρ := ρ) (σ := σ) (a := a) pp_X9_ready (Nat.le_of_ble_eq_true rfl) (k_X9_ready h1 hI (xs (i + 1).toNatClampNeg))
  obtain ⟨hI2, fr2, -, z2, rfl, -⟩ := hq
  refine c_L (n := 1) (v := 96) (As := [.inl (xs (i + 1).toNatClampNeg)]) (rest := []) ⟨hx, hb, hml, hown, hT⟩ hK hM hA hP hD hS pp_X9_ready hM1 sh_96 mw_312 mw_313 mw_314 mw_173 (by decide +kernel) rfl ⟨Nat.le_of_ble_eq_true rfl, Nat.le_of_ble_eq_true rfl⟩ hl.1 (Nat.le_of_ble_eq_true rfl) rfl dL_law_906 ⟨Nat.le_of_ble_eq_true rfl, Nat.le_of_ble_eq_true rfl⟩ (fun H locs hP hD hS => ?_)
  have hI := hI2
  show LG p l e s m b below meth c H locs (F0 m 909 ls [.int z2])
  refine lv_pop hx hb dL_law_909 rfl ?_
  refine lv_goto (tgt := 2146) hx hb dL_law_910 (by decide) ?_
  exact hend _ _ _ _ hI (REL_fr fr1 fr2 (by decide) (by decide) hJ) hP hD hS hl
set_option maxRecDepth 100000 in
set_option maxHeartbeats 4000000 in
theorem lc_23 {p : Program} {l : Launch} {e : Env} {s : State} {m : MethodId} {below : List Frame} {meth : Method} {c : Code} {dC : Nat → ClassId} {dI : Nat → Nat → Nat} {b L : Nat} {xs : Nat → Int32} {H : Heap} {locs : List Loc} {ls : Array Slot} {ρ : Nat → Nat} {σ : Nat → Option Nat} {a : Nat → ClassId} {h : PH} {i : Int32} (C0 : lw_At p s m meth c b L xs) (hK : va_K (dC, dI) vwCl (tysP a) s) (hM : AMB σ (fun q : Nat => s.heap.size ≤ q) s s.heap) (hI : INV h) (hJ : REL h) (hP : va_P (dC, dI) vwCl (toW ρ a h) H) (hD : va_D (fun q : Nat => s.heap.size ≤ q) (toW ρ a h)) (hS : va_S (fun q : Nat => s.heap.size ≤ q) s.heap H locs) (hl : lv_has ls 4 [(0, .ref b), (1, .ref (ρ 0)), (2, .ref (ρ 96)), (3, .int i)]) (hi : 0 ≤ i.toInt ∧ i.toInt + 6 ≤ (L : Int) ∧ L ≤ 384) (hend : ∀ (H : Heap) (locs : List Loc) (ls : Array Slot) (h : PH), INV h → REL h → va_P (dC, dI) vwCl (toW ρ a h) H → va_D (fun q : Nat => s.heap.size ≤ q) (toW ρ a h) → va_S (fun q : Nat => s.heap.size ≤ q) s.heap H locs → lv_has ls 4 [(0, .ref b), (1, .ref (ρ 0)), (2, .ref (ρ 96)), (3, .int i)] → LG p l e s m b below meth c H locs (F0 m 2146 ls [])) : LG p l e s m b below meth c H locs (F0 m 913 ls []) := by
  obtain ⟨hx, hb, hr, hml, hown, hts, hX, hbl, hlocks, hgv⟩ := C0
  have hT : ∀ w ∈ TB, w.before #[Value.ref b] s = true := fun w h => hts w (TB_lw h)
  have hown : s.vm.findClass RL = some m.cls := hown
  have hA : ∀ q : Nat, s.heap.size ≤ q → (fun q : Nat => s.heap.size ≤ q) q := fun _ h => h
  have hbA : ¬ (fun q : Nat => s.heap.size ≤ q) b := Nat.not_le.mpr hbl
  refine lv_aload_n hx hb dL_law_913 rfl (lv_at hl 1 rfl) ?_
  obtain ⟨r1, h1, hq, hM1⟩ := CALL_met (l := l) (dC := dC) (dI := dI) (ρ := ρ) (σ := σ) (a := a) pp_X8_crowded (Nat.le_of_ble_eq_true rfl) (k_X8_crowded h hI )
  obtain ⟨hI1, fr1, -, z1, rfl, -⟩ := hq
  refine c_L (n := 0) (v := 0) (As := []) (rest := []) ⟨hx, hb, hml, hown, hT⟩ hK hM hA hP hD hS pp_X8_crowded hM1 sh_0 mw_315 mw_316 mw_317 mw_168 (by decide +kernel) rfl ⟨Nat.le_of_ble_eq_true rfl, Nat.le_of_ble_eq_true rfl⟩ hl.1 (Nat.le_of_ble_eq_true rfl) rfl dL_law_914 ⟨Nat.le_of_ble_eq_true rfl, Nat.le_of_ble_eq_true rfl⟩ (fun H locs hP hD hS => ?_)
  have hI := hI1
  show LG p l e s m b below meth c H locs (F0 m 917 ls [.int z1])
  refine lv_pop hx hb dL_law_917 rfl ?_
  refine lv_aload_n hx hb dL_law_918 rfl (lv_at hl 2 rfl) ?_
  obtain ⟨r2, h2, hq, hM1⟩ := CALL_met (l := l) (dC := dC) (dI := dI) (ρ := ρ) (σ := σ) (a := a) pp_X9_crowded (Nat.le_of_ble_eq_true rfl) (k_X9_crowded h1 hI )
  obtain ⟨hI2, fr2, -, z2, rfl, -⟩ := hq
  refine c_L (n := 0) (v := 96) (As := []) (rest := []) ⟨hx, hb, hml, hown, hT⟩ hK hM hA hP hD hS pp_X9_crowded hM1 sh_96 mw_318 mw_319 mw_320 mw_173 (by decide +kernel) rfl ⟨Nat.le_of_ble_eq_true rfl, Nat.le_of_ble_eq_true rfl⟩ hl.1 (Nat.le_of_ble_eq_true rfl) rfl dL_law_919 ⟨Nat.le_of_ble_eq_true rfl, Nat.le_of_ble_eq_true rfl⟩ (fun H locs hP hD hS => ?_)
  have hI := hI2
  show LG p l e s m b below meth c H locs (F0 m 922 ls [.int z2])
  refine lv_pop hx hb dL_law_922 rfl ?_
  refine lv_goto (tgt := 2146) hx hb dL_law_923 (by decide) ?_
  exact hend _ _ _ _ hI (REL_fr fr1 fr2 (by decide) (by decide) hJ) hP hD hS hl
set_option maxRecDepth 100000 in
set_option maxHeartbeats 4000000 in
theorem lc_24 {p : Program} {l : Launch} {e : Env} {s : State} {m : MethodId} {below : List Frame} {meth : Method} {c : Code} {dC : Nat → ClassId} {dI : Nat → Nat → Nat} {b L : Nat} {xs : Nat → Int32} {H : Heap} {locs : List Loc} {ls : Array Slot} {ρ : Nat → Nat} {σ : Nat → Option Nat} {a : Nat → ClassId} {h : PH} {i : Int32} (C0 : lw_At p s m meth c b L xs) (hK : va_K (dC, dI) vwCl (tysP a) s) (hM : AMB σ (fun q : Nat => s.heap.size ≤ q) s s.heap) (hI : INV h) (hJ : REL h) (hP : va_P (dC, dI) vwCl (toW ρ a h) H) (hD : va_D (fun q : Nat => s.heap.size ≤ q) (toW ρ a h)) (hS : va_S (fun q : Nat => s.heap.size ≤ q) s.heap H locs) (hl : lv_has ls 4 [(0, .ref b), (1, .ref (ρ 0)), (2, .ref (ρ 96)), (3, .int i)]) (hi : 0 ≤ i.toInt ∧ i.toInt + 6 ≤ (L : Int) ∧ L ≤ 384) (hend : ∀ (H : Heap) (locs : List Loc) (ls : Array Slot) (h : PH), INV h → REL h → va_P (dC, dI) vwCl (toW ρ a h) H → va_D (fun q : Nat => s.heap.size ≤ q) (toW ρ a h) → va_S (fun q : Nat => s.heap.size ≤ q) s.heap H locs → lv_has ls 4 [(0, .ref b), (1, .ref (ρ 0)), (2, .ref (ρ 96)), (3, .int i)] → LG p l e s m b below meth c H locs (F0 m 2146 ls [])) : LG p l e s m b below meth c H locs (F0 m 926 ls []) := by
  obtain ⟨hx, hb, hr, hml, hown, hts, hX, hbl, hlocks, hgv⟩ := C0
  have hT : ∀ w ∈ TB, w.before #[Value.ref b] s = true := fun w h => hts w (TB_lw h)
  have hown : s.vm.findClass RL = some m.cls := hown
  have hA : ∀ q : Nat, s.heap.size ≤ q → (fun q : Nat => s.heap.size ≤ q) q := fun _ h => h
  have hbA : ¬ (fun q : Nat => s.heap.size ≤ q) b := Nat.not_le.mpr hbl
  refine lv_aload_n hx hb dL_law_926 rfl (lv_at hl 1 rfl) ?_
  refine lv_aload_n hx hb dL_law_927 rfl (lv_at hl 0 rfl) ?_
  refine lv_iload_n hx hb dL_law_928 rfl (lv_at hl 3 rfl) ?_
  refine lv_iconst (v := 1) hx hb dL_law_929 (by decide) ?_
  refine lv_iadd hx hb dL_law_930 ?_
  refine va_sld hx hb hX hbl hbA hS (in_s hi (k := 1) (by decide)) dL_law_931 ?_
  obtain ⟨r1, h1, hq, hM1⟩ := CALL_met (l := l) (dC := dC) (dI := dI) (ρ := ρ) (σ := σ) (a := a) pp_X8_road (Nat.le_of_ble_eq_true rfl) (k_X8_road h hI (xs (i + 1).toNatClampNeg))
  obtain ⟨hI1, fr1, -, z1, rfl, -⟩ := hq
  refine c_L (n := 1) (v := 0) (As := [.inl (xs (i + 1).toNatClampNeg)]) (rest := []) ⟨hx, hb, hml, hown, hT⟩ hK hM hA hP hD hS pp_X8_road hM1 sh_0 mw_321 mw_322 mw_323 mw_168 (by decide +kernel) rfl ⟨Nat.le_of_ble_eq_true rfl, Nat.le_of_ble_eq_true rfl⟩ hl.1 (Nat.le_of_ble_eq_true rfl) rfl dL_law_932 ⟨Nat.le_of_ble_eq_true rfl, Nat.le_of_ble_eq_true rfl⟩ (fun H locs hP hD hS => ?_)
  have hI := hI1
  show LG p l e s m b below meth c H locs (F0 m 935 ls [.int z1])
  refine lv_pop hx hb dL_law_935 rfl ?_
  refine lv_aload_n hx hb dL_law_936 rfl (lv_at hl 2 rfl) ?_
  refine lv_aload_n hx hb dL_law_937 rfl (lv_at hl 0 rfl) ?_
  refine lv_iload_n hx hb dL_law_938 rfl (lv_at hl 3 rfl) ?_
  refine lv_iconst (v := 1) hx hb dL_law_939 (by decide) ?_
  refine lv_iadd hx hb dL_law_940 ?_
  refine va_sld hx hb hX hbl hbA hS (in_s hi (k := 1) (by decide)) dL_law_941 ?_
  obtain ⟨r2, h2, hq, hM1⟩ := CALL_met (l := l) (dC := dC) (dI := dI) (ρ := ρ) (σ := σ) (a := a) pp_X9_road (Nat.le_of_ble_eq_true rfl) (k_X9_road h1 hI (xs (i + 1).toNatClampNeg))
  obtain ⟨hI2, fr2, -, z2, rfl, -⟩ := hq
  refine c_L (n := 1) (v := 96) (As := [.inl (xs (i + 1).toNatClampNeg)]) (rest := []) ⟨hx, hb, hml, hown, hT⟩ hK hM hA hP hD hS pp_X9_road hM1 sh_96 mw_324 mw_325 mw_326 mw_173 (by decide +kernel) rfl ⟨Nat.le_of_ble_eq_true rfl, Nat.le_of_ble_eq_true rfl⟩ hl.1 (Nat.le_of_ble_eq_true rfl) rfl dL_law_942 ⟨Nat.le_of_ble_eq_true rfl, Nat.le_of_ble_eq_true rfl⟩ (fun H locs hP hD hS => ?_)
  have hI := hI2
  show LG p l e s m b below meth c H locs (F0 m 945 ls [.int z2])
  refine lv_pop hx hb dL_law_945 rfl ?_
  refine lv_goto (tgt := 2146) hx hb dL_law_946 (by decide) ?_
  exact hend _ _ _ _ hI (REL_fr fr1 fr2 (by decide) (by decide) hJ) hP hD hS hl
set_option maxRecDepth 100000 in
set_option maxHeartbeats 4000000 in
theorem lc_25 {p : Program} {l : Launch} {e : Env} {s : State} {m : MethodId} {below : List Frame} {meth : Method} {c : Code} {dC : Nat → ClassId} {dI : Nat → Nat → Nat} {b L : Nat} {xs : Nat → Int32} {H : Heap} {locs : List Loc} {ls : Array Slot} {ρ : Nat → Nat} {σ : Nat → Option Nat} {a : Nat → ClassId} {h : PH} {i : Int32} (C0 : lw_At p s m meth c b L xs) (hK : va_K (dC, dI) vwCl (tysP a) s) (hM : AMB σ (fun q : Nat => s.heap.size ≤ q) s s.heap) (hI : INV h) (hJ : REL h) (hP : va_P (dC, dI) vwCl (toW ρ a h) H) (hD : va_D (fun q : Nat => s.heap.size ≤ q) (toW ρ a h)) (hS : va_S (fun q : Nat => s.heap.size ≤ q) s.heap H locs) (hl : lv_has ls 4 [(0, .ref b), (1, .ref (ρ 0)), (2, .ref (ρ 96)), (3, .int i)]) (hi : 0 ≤ i.toInt ∧ i.toInt + 6 ≤ (L : Int) ∧ L ≤ 384) (hend : ∀ (H : Heap) (locs : List Loc) (ls : Array Slot) (h : PH), INV h → REL h → va_P (dC, dI) vwCl (toW ρ a h) H → va_D (fun q : Nat => s.heap.size ≤ q) (toW ρ a h) → va_S (fun q : Nat => s.heap.size ≤ q) s.heap H locs → lv_has ls 4 [(0, .ref b), (1, .ref (ρ 0)), (2, .ref (ρ 96)), (3, .int i)] → LG p l e s m b below meth c H locs (F0 m 2146 ls [])) : LG p l e s m b below meth c H locs (F0 m 949 ls []) := by
  obtain ⟨hx, hb, hr, hml, hown, hts, hX, hbl, hlocks, hgv⟩ := C0
  have hT : ∀ w ∈ TB, w.before #[Value.ref b] s = true := fun w h => hts w (TB_lw h)
  have hown : s.vm.findClass RL = some m.cls := hown
  have hA : ∀ q : Nat, s.heap.size ≤ q → (fun q : Nat => s.heap.size ≤ q) q := fun _ h => h
  have hbA : ¬ (fun q : Nat => s.heap.size ≤ q) b := Nat.not_le.mpr hbl
  refine lv_aload_n hx hb dL_law_949 rfl (lv_at hl 1 rfl) ?_
  refine lv_aload_n hx hb dL_law_950 rfl (lv_at hl 0 rfl) ?_
  refine lv_iload_n hx hb dL_law_951 rfl (lv_at hl 3 rfl) ?_
  refine lv_iconst (v := 1) hx hb dL_law_952 (by decide) ?_
  refine lv_iadd hx hb dL_law_953 ?_
  refine va_sld hx hb hX hbl hbA hS (in_s hi (k := 1) (by decide)) dL_law_954 ?_
  obtain ⟨r1, h1, hq, hM1⟩ := CALL_met (l := l) (dC := dC) (dI := dI) (ρ := ρ) (σ := σ) (a := a) pp_X8_left (Nat.le_of_ble_eq_true rfl) (k_X8_left h hI (xs (i + 1).toNatClampNeg))
  obtain ⟨hI1, fr1, -, z1, rfl, -⟩ := hq
  refine c_L (n := 1) (v := 0) (As := [.inl (xs (i + 1).toNatClampNeg)]) (rest := []) ⟨hx, hb, hml, hown, hT⟩ hK hM hA hP hD hS pp_X8_left hM1 sh_0 mw_327 mw_328 mw_329 mw_168 (by decide +kernel) rfl ⟨Nat.le_of_ble_eq_true rfl, Nat.le_of_ble_eq_true rfl⟩ hl.1 (Nat.le_of_ble_eq_true rfl) rfl dL_law_955 ⟨Nat.le_of_ble_eq_true rfl, Nat.le_of_ble_eq_true rfl⟩ (fun H locs hP hD hS => ?_)
  have hI := hI1
  show LG p l e s m b below meth c H locs (F0 m 958 ls [.int z1])
  refine lv_pop hx hb dL_law_958 rfl ?_
  refine lv_aload_n hx hb dL_law_959 rfl (lv_at hl 2 rfl) ?_
  refine lv_aload_n hx hb dL_law_960 rfl (lv_at hl 0 rfl) ?_
  refine lv_iload_n hx hb dL_law_961 rfl (lv_at hl 3 rfl) ?_
  refine lv_iconst (v := 1) hx hb dL_law_962 (by decide) ?_
  refine lv_iadd hx hb dL_law_963 ?_
  refine va_sld hx hb hX hbl hbA hS (in_s hi (k := 1) (by decide)) dL_law_964 ?_
  obtain ⟨r2, h2, hq, hM1⟩ := CALL_met (l := l) (dC := dC) (dI := dI) (ρ := ρ) (σ := σ) (a := a) pp_X9_left (Nat.le_of_ble_eq_true rfl) (k_X9_left h1 hI (xs (i + 1).toNatClampNeg))
  obtain ⟨hI2, fr2, -, z2, rfl, -⟩ := hq
  refine c_L (n := 1) (v := 96) (As := [.inl (xs (i + 1).toNatClampNeg)]) (rest := []) ⟨hx, hb, hml, hown, hT⟩ hK hM hA hP hD hS pp_X9_left hM1 sh_96 mw_330 mw_331 mw_332 mw_173 (by decide +kernel) rfl ⟨Nat.le_of_ble_eq_true rfl, Nat.le_of_ble_eq_true rfl⟩ hl.1 (Nat.le_of_ble_eq_true rfl) rfl dL_law_965 ⟨Nat.le_of_ble_eq_true rfl, Nat.le_of_ble_eq_true rfl⟩ (fun H locs hP hD hS => ?_)
  have hI := hI2
  show LG p l e s m b below meth c H locs (F0 m 968 ls [.int z2])
  refine lv_pop hx hb dL_law_968 rfl ?_
  refine lv_goto (tgt := 2146) hx hb dL_law_969 (by decide) ?_
  exact hend _ _ _ _ hI (REL_fr fr1 fr2 (by decide) (by decide) hJ) hP hD hS hl
set_option maxRecDepth 100000 in
set_option maxHeartbeats 4000000 in
theorem lc_26 {p : Program} {l : Launch} {e : Env} {s : State} {m : MethodId} {below : List Frame} {meth : Method} {c : Code} {dC : Nat → ClassId} {dI : Nat → Nat → Nat} {b L : Nat} {xs : Nat → Int32} {H : Heap} {locs : List Loc} {ls : Array Slot} {ρ : Nat → Nat} {σ : Nat → Option Nat} {a : Nat → ClassId} {h : PH} {i : Int32} (C0 : lw_At p s m meth c b L xs) (hK : va_K (dC, dI) vwCl (tysP a) s) (hM : AMB σ (fun q : Nat => s.heap.size ≤ q) s s.heap) (hI : INV h) (hJ : REL h) (hP : va_P (dC, dI) vwCl (toW ρ a h) H) (hD : va_D (fun q : Nat => s.heap.size ≤ q) (toW ρ a h)) (hS : va_S (fun q : Nat => s.heap.size ≤ q) s.heap H locs) (hl : lv_has ls 4 [(0, .ref b), (1, .ref (ρ 0)), (2, .ref (ρ 96)), (3, .int i)]) (hi : 0 ≤ i.toInt ∧ i.toInt + 6 ≤ (L : Int) ∧ L ≤ 384) (hend : ∀ (H : Heap) (locs : List Loc) (ls : Array Slot) (h : PH), INV h → REL h → va_P (dC, dI) vwCl (toW ρ a h) H → va_D (fun q : Nat => s.heap.size ≤ q) (toW ρ a h) → va_S (fun q : Nat => s.heap.size ≤ q) s.heap H locs → lv_has ls 4 [(0, .ref b), (1, .ref (ρ 0)), (2, .ref (ρ 96)), (3, .int i)] → LG p l e s m b below meth c H locs (F0 m 2146 ls [])) : LG p l e s m b below meth c H locs (F0 m 972 ls []) := by
  obtain ⟨hx, hb, hr, hml, hown, hts, hX, hbl, hlocks, hgv⟩ := C0
  have hT : ∀ w ∈ TB, w.before #[Value.ref b] s = true := fun w h => hts w (TB_lw h)
  have hown : s.vm.findClass RL = some m.cls := hown
  have hA : ∀ q : Nat, s.heap.size ≤ q → (fun q : Nat => s.heap.size ≤ q) q := fun _ h => h
  have hbA : ¬ (fun q : Nat => s.heap.size ≤ q) b := Nat.not_le.mpr hbl
  refine lv_aload_n hx hb dL_law_972 rfl (lv_at hl 1 rfl) ?_
  obtain ⟨r1, h1, hq, hM1⟩ := CALL_met (l := l) (dC := dC) (dI := dI) (ρ := ρ) (σ := σ) (a := a) pp_X8_full (Nat.le_of_ble_eq_true rfl) (k_X8_full h hI )
  obtain ⟨hI1, fr1, -, z1, rfl, -⟩ := hq
  refine c_L (n := 0) (v := 0) (As := []) (rest := []) ⟨hx, hb, hml, hown, hT⟩ hK hM hA hP hD hS pp_X8_full hM1 sh_0 mw_333 mw_334 mw_335 mw_168 (by decide +kernel) rfl ⟨Nat.le_of_ble_eq_true rfl, Nat.le_of_ble_eq_true rfl⟩ hl.1 (Nat.le_of_ble_eq_true rfl) rfl dL_law_973 ⟨Nat.le_of_ble_eq_true rfl, Nat.le_of_ble_eq_true rfl⟩ (fun H locs hP hD hS => ?_)
  have hI := hI1
  show LG p l e s m b below meth c H locs (F0 m 976 ls [.int z1])
  refine lv_pop hx hb dL_law_976 rfl ?_
  refine lv_aload_n hx hb dL_law_977 rfl (lv_at hl 2 rfl) ?_
  obtain ⟨r2, h2, hq, hM1⟩ := CALL_met (l := l) (dC := dC) (dI := dI) (ρ := ρ) (σ := σ) (a := a) pp_X9_full (Nat.le_of_ble_eq_true rfl) (k_X9_full h1 hI )
  obtain ⟨hI2, fr2, -, z2, rfl, -⟩ := hq
  refine c_L (n := 0) (v := 96) (As := []) (rest := []) ⟨hx, hb, hml, hown, hT⟩ hK hM hA hP hD hS pp_X9_full hM1 sh_96 mw_336 mw_337 mw_338 mw_173 (by decide +kernel) rfl ⟨Nat.le_of_ble_eq_true rfl, Nat.le_of_ble_eq_true rfl⟩ hl.1 (Nat.le_of_ble_eq_true rfl) rfl dL_law_978 ⟨Nat.le_of_ble_eq_true rfl, Nat.le_of_ble_eq_true rfl⟩ (fun H locs hP hD hS => ?_)
  have hI := hI2
  show LG p l e s m b below meth c H locs (F0 m 981 ls [.int z2])
  refine lv_pop hx hb dL_law_981 rfl ?_
  refine lv_goto (tgt := 2146) hx hb dL_law_982 (by decide) ?_
  exact hend _ _ _ _ hI (REL_fr fr1 fr2 (by decide) (by decide) hJ) hP hD hS hl
set_option maxRecDepth 100000 in
set_option maxHeartbeats 4000000 in
theorem lc_27 {p : Program} {l : Launch} {e : Env} {s : State} {m : MethodId} {below : List Frame} {meth : Method} {c : Code} {dC : Nat → ClassId} {dI : Nat → Nat → Nat} {b L : Nat} {xs : Nat → Int32} {H : Heap} {locs : List Loc} {ls : Array Slot} {ρ : Nat → Nat} {σ : Nat → Option Nat} {a : Nat → ClassId} {h : PH} {i : Int32} (C0 : lw_At p s m meth c b L xs) (hK : va_K (dC, dI) vwCl (tysP a) s) (hM : AMB σ (fun q : Nat => s.heap.size ≤ q) s s.heap) (hI : INV h) (hJ : REL h) (hP : va_P (dC, dI) vwCl (toW ρ a h) H) (hD : va_D (fun q : Nat => s.heap.size ≤ q) (toW ρ a h)) (hS : va_S (fun q : Nat => s.heap.size ≤ q) s.heap H locs) (hl : lv_has ls 4 [(0, .ref b), (1, .ref (ρ 0)), (2, .ref (ρ 96)), (3, .int i)]) (hi : 0 ≤ i.toInt ∧ i.toInt + 6 ≤ (L : Int) ∧ L ≤ 384) (hend : ∀ (H : Heap) (locs : List Loc) (ls : Array Slot) (h : PH), INV h → REL h → va_P (dC, dI) vwCl (toW ρ a h) H → va_D (fun q : Nat => s.heap.size ≤ q) (toW ρ a h) → va_S (fun q : Nat => s.heap.size ≤ q) s.heap H locs → lv_has ls 4 [(0, .ref b), (1, .ref (ρ 0)), (2, .ref (ρ 96)), (3, .int i)] → LG p l e s m b below meth c H locs (F0 m 2146 ls [])) : LG p l e s m b below meth c H locs (F0 m 985 ls []) := by
  obtain ⟨hx, hb, hr, hml, hown, hts, hX, hbl, hlocks, hgv⟩ := C0
  have hT : ∀ w ∈ TB, w.before #[Value.ref b] s = true := fun w h => hts w (TB_lw h)
  have hown : s.vm.findClass RL = some m.cls := hown
  have hA : ∀ q : Nat, s.heap.size ≤ q → (fun q : Nat => s.heap.size ≤ q) q := fun _ h => h
  have hbA : ¬ (fun q : Nat => s.heap.size ≤ q) b := Nat.not_le.mpr hbl
  refine lv_aload_n hx hb dL_law_985 rfl (lv_at hl 1 rfl) ?_
  refine lv_aload_n hx hb dL_law_986 rfl (lv_at hl 0 rfl) ?_
  refine lv_iload_n hx hb dL_law_987 rfl (lv_at hl 3 rfl) ?_
  refine lv_iconst (v := 1) hx hb dL_law_988 (by decide) ?_
  refine lv_iadd hx hb dL_law_989 ?_
  refine va_sld hx hb hX hbl hbA hS (in_s hi (k := 1) (by decide)) dL_law_990 ?_
  obtain ⟨r1, h1, hq, hM1⟩ := CALL_met (l := l) (dC := dC) (dI := dI) (ρ := ρ) (σ := σ) (a := a) pp_X8_starts (Nat.le_of_ble_eq_true rfl) (k_X8_starts h hI (xs (i + 1).toNatClampNeg))
  obtain ⟨hI1, fr1, -, z1, rfl, -⟩ := hq
  refine c_L (n := 1) (v := 0) (As := [.inl (xs (i + 1).toNatClampNeg)]) (rest := []) ⟨hx, hb, hml, hown, hT⟩ hK hM hA hP hD hS pp_X8_starts hM1 sh_0 mw_339 mw_340 mw_341 mw_168 (by decide +kernel) rfl ⟨Nat.le_of_ble_eq_true rfl, Nat.le_of_ble_eq_true rfl⟩ hl.1 (Nat.le_of_ble_eq_true rfl) rfl dL_law_991 ⟨Nat.le_of_ble_eq_true rfl, Nat.le_of_ble_eq_true rfl⟩ (fun H locs hP hD hS => ?_)
  have hI := hI1
  show LG p l e s m b below meth c H locs (F0 m 994 ls [.int z1])
  refine lv_pop hx hb dL_law_994 rfl ?_
  refine lv_aload_n hx hb dL_law_995 rfl (lv_at hl 2 rfl) ?_
  refine lv_aload_n hx hb dL_law_996 rfl (lv_at hl 0 rfl) ?_
  refine lv_iload_n hx hb dL_law_997 rfl (lv_at hl 3 rfl) ?_
  refine lv_iconst (v := 1) hx hb dL_law_998 (by decide) ?_
  refine lv_iadd hx hb dL_law_999 ?_
  refine va_sld hx hb hX hbl hbA hS (in_s hi (k := 1) (by decide)) dL_law_1000 ?_
  obtain ⟨r2, h2, hq, hM1⟩ := CALL_met (l := l) (dC := dC) (dI := dI) (ρ := ρ) (σ := σ) (a := a) pp_X9_starts (Nat.le_of_ble_eq_true rfl) (k_X9_starts h1 hI (xs (i + 1).toNatClampNeg))
  obtain ⟨hI2, fr2, -, z2, rfl, -⟩ := hq
  refine c_L (n := 1) (v := 96) (As := [.inl (xs (i + 1).toNatClampNeg)]) (rest := []) ⟨hx, hb, hml, hown, hT⟩ hK hM hA hP hD hS pp_X9_starts hM1 sh_96 mw_342 mw_343 mw_344 mw_173 (by decide +kernel) rfl ⟨Nat.le_of_ble_eq_true rfl, Nat.le_of_ble_eq_true rfl⟩ hl.1 (Nat.le_of_ble_eq_true rfl) rfl dL_law_1001 ⟨Nat.le_of_ble_eq_true rfl, Nat.le_of_ble_eq_true rfl⟩ (fun H locs hP hD hS => ?_)
  have hI := hI2
  show LG p l e s m b below meth c H locs (F0 m 1004 ls [.int z2])
  refine lv_pop hx hb dL_law_1004 rfl ?_
  refine lv_goto (tgt := 2146) hx hb dL_law_1005 (by decide) ?_
  exact hend _ _ _ _ hI (REL_fr fr1 fr2 (by decide) (by decide) hJ) hP hD hS hl
set_option maxRecDepth 100000 in
set_option maxHeartbeats 4000000 in
theorem lc_28 {p : Program} {l : Launch} {e : Env} {s : State} {m : MethodId} {below : List Frame} {meth : Method} {c : Code} {dC : Nat → ClassId} {dI : Nat → Nat → Nat} {b L : Nat} {xs : Nat → Int32} {H : Heap} {locs : List Loc} {ls : Array Slot} {ρ : Nat → Nat} {σ : Nat → Option Nat} {a : Nat → ClassId} {h : PH} {i : Int32} (C0 : lw_At p s m meth c b L xs) (hK : va_K (dC, dI) vwCl (tysP a) s) (hM : AMB σ (fun q : Nat => s.heap.size ≤ q) s s.heap) (hI : INV h) (hJ : REL h) (hP : va_P (dC, dI) vwCl (toW ρ a h) H) (hD : va_D (fun q : Nat => s.heap.size ≤ q) (toW ρ a h)) (hS : va_S (fun q : Nat => s.heap.size ≤ q) s.heap H locs) (hl : lv_has ls 4 [(0, .ref b), (1, .ref (ρ 0)), (2, .ref (ρ 96)), (3, .int i)]) (hi : 0 ≤ i.toInt ∧ i.toInt + 6 ≤ (L : Int) ∧ L ≤ 384) (hend : ∀ (H : Heap) (locs : List Loc) (ls : Array Slot) (h : PH), INV h → REL h → va_P (dC, dI) vwCl (toW ρ a h) H → va_D (fun q : Nat => s.heap.size ≤ q) (toW ρ a h) → va_S (fun q : Nat => s.heap.size ≤ q) s.heap H locs → lv_has ls 4 [(0, .ref b), (1, .ref (ρ 0)), (2, .ref (ρ 96)), (3, .int i)] → LG p l e s m b below meth c H locs (F0 m 2146 ls [])) : LG p l e s m b below meth c H locs (F0 m 1008 ls []) := by
  obtain ⟨hx, hb, hr, hml, hown, hts, hX, hbl, hlocks, hgv⟩ := C0
  have hT : ∀ w ∈ TB, w.before #[Value.ref b] s = true := fun w h => hts w (TB_lw h)
  have hown : s.vm.findClass RL = some m.cls := hown
  have hA : ∀ q : Nat, s.heap.size ≤ q → (fun q : Nat => s.heap.size ≤ q) q := fun _ h => h
  have hbA : ¬ (fun q : Nat => s.heap.size ≤ q) b := Nat.not_le.mpr hbl
  refine lv_aload_n hx hb dL_law_1008 rfl (lv_at hl 1 rfl) ?_
  refine lv_aload_n hx hb dL_law_1009 rfl (lv_at hl 0 rfl) ?_
  refine lv_iload_n hx hb dL_law_1010 rfl (lv_at hl 3 rfl) ?_
  refine lv_iconst (v := 1) hx hb dL_law_1011 (by decide) ?_
  refine lv_iadd hx hb dL_law_1012 ?_
  refine va_sld hx hb hX hbl hbA hS (in_s hi (k := 1) (by decide)) dL_law_1013 ?_
  obtain ⟨r1, h1, hq, hM1⟩ := CALL_met (l := l) (dC := dC) (dI := dI) (ρ := ρ) (σ := σ) (a := a) pp_X8_passes (Nat.le_of_ble_eq_true rfl) (k_X8_passes h hI (xs (i + 1).toNatClampNeg))
  obtain ⟨hI1, fr1, -, z1, rfl, -⟩ := hq
  refine c_L (n := 1) (v := 0) (As := [.inl (xs (i + 1).toNatClampNeg)]) (rest := []) ⟨hx, hb, hml, hown, hT⟩ hK hM hA hP hD hS pp_X8_passes hM1 sh_0 mw_345 mw_346 mw_347 mw_168 (by decide +kernel) rfl ⟨Nat.le_of_ble_eq_true rfl, Nat.le_of_ble_eq_true rfl⟩ hl.1 (Nat.le_of_ble_eq_true rfl) rfl dL_law_1014 ⟨Nat.le_of_ble_eq_true rfl, Nat.le_of_ble_eq_true rfl⟩ (fun H locs hP hD hS => ?_)
  have hI := hI1
  show LG p l e s m b below meth c H locs (F0 m 1017 ls [.int z1])
  refine lv_pop hx hb dL_law_1017 rfl ?_
  refine lv_aload_n hx hb dL_law_1018 rfl (lv_at hl 2 rfl) ?_
  refine lv_aload_n hx hb dL_law_1019 rfl (lv_at hl 0 rfl) ?_
  refine lv_iload_n hx hb dL_law_1020 rfl (lv_at hl 3 rfl) ?_
  refine lv_iconst (v := 1) hx hb dL_law_1021 (by decide) ?_
  refine lv_iadd hx hb dL_law_1022 ?_
  refine va_sld hx hb hX hbl hbA hS (in_s hi (k := 1) (by decide)) dL_law_1023 ?_
  obtain ⟨r2, h2, hq, hM1⟩ := CALL_met (l := l) (dC := dC) (dI := dI) (ρ := ρ) (σ := σ) (a := a) pp_X9_passes (Nat.le_of_ble_eq_true rfl) (k_X9_passes h1 hI (xs (i + 1).toNatClampNeg))
  obtain ⟨hI2, fr2, -, z2, rfl, -⟩ := hq
  refine c_L (n := 1) (v := 96) (As := [.inl (xs (i + 1).toNatClampNeg)]) (rest := []) ⟨hx, hb, hml, hown, hT⟩ hK hM hA hP hD hS pp_X9_passes hM1 sh_96 mw_348 mw_349 mw_350 mw_173 (by decide +kernel) rfl ⟨Nat.le_of_ble_eq_true rfl, Nat.le_of_ble_eq_true rfl⟩ hl.1 (Nat.le_of_ble_eq_true rfl) rfl dL_law_1024 ⟨Nat.le_of_ble_eq_true rfl, Nat.le_of_ble_eq_true rfl⟩ (fun H locs hP hD hS => ?_)
  have hI := hI2
  show LG p l e s m b below meth c H locs (F0 m 1027 ls [.int z2])
  refine lv_pop hx hb dL_law_1027 rfl ?_
  refine lv_goto (tgt := 2146) hx hb dL_law_1028 (by decide) ?_
  exact hend _ _ _ _ hI (REL_fr fr1 fr2 (by decide) (by decide) hJ) hP hD hS hl
set_option maxRecDepth 100000 in
set_option maxHeartbeats 4000000 in
theorem lc_29 {p : Program} {l : Launch} {e : Env} {s : State} {m : MethodId} {below : List Frame} {meth : Method} {c : Code} {dC : Nat → ClassId} {dI : Nat → Nat → Nat} {b L : Nat} {xs : Nat → Int32} {H : Heap} {locs : List Loc} {ls : Array Slot} {ρ : Nat → Nat} {σ : Nat → Option Nat} {a : Nat → ClassId} {h : PH} {i : Int32} (C0 : lw_At p s m meth c b L xs) (hK : va_K (dC, dI) vwCl (tysP a) s) (hM : AMB σ (fun q : Nat => s.heap.size ≤ q) s s.heap) (hI : INV h) (hJ : REL h) (hP : va_P (dC, dI) vwCl (toW ρ a h) H) (hD : va_D (fun q : Nat => s.heap.size ≤ q) (toW ρ a h)) (hS : va_S (fun q : Nat => s.heap.size ≤ q) s.heap H locs) (hl : lv_has ls 4 [(0, .ref b), (1, .ref (ρ 0)), (2, .ref (ρ 96)), (3, .int i)]) (hi : 0 ≤ i.toInt ∧ i.toInt + 6 ≤ (L : Int) ∧ L ≤ 384) (hend : ∀ (H : Heap) (locs : List Loc) (ls : Array Slot) (h : PH), INV h → REL h → va_P (dC, dI) vwCl (toW ρ a h) H → va_D (fun q : Nat => s.heap.size ≤ q) (toW ρ a h) → va_S (fun q : Nat => s.heap.size ≤ q) s.heap H locs → lv_has ls 4 [(0, .ref b), (1, .ref (ρ 0)), (2, .ref (ρ 96)), (3, .int i)] → LG p l e s m b below meth c H locs (F0 m 2146 ls [])) : LG p l e s m b below meth c H locs (F0 m 1031 ls []) := by
  obtain ⟨hx, hb, hr, hml, hown, hts, hX, hbl, hlocks, hgv⟩ := C0
  have hT : ∀ w ∈ TB, w.before #[Value.ref b] s = true := fun w h => hts w (TB_lw h)
  have hown : s.vm.findClass RL = some m.cls := hown
  have hA : ∀ q : Nat, s.heap.size ≤ q → (fun q : Nat => s.heap.size ≤ q) q := fun _ h => h
  have hbA : ¬ (fun q : Nat => s.heap.size ≤ q) b := Nat.not_le.mpr hbl
  refine lv_aload_n hx hb dL_law_1031 rfl (lv_at hl 1 rfl) ?_
  refine lv_aload_n hx hb dL_law_1032 rfl (lv_at hl 0 rfl) ?_
  refine lv_iload_n hx hb dL_law_1033 rfl (lv_at hl 3 rfl) ?_
  refine lv_iconst (v := 1) hx hb dL_law_1034 (by decide) ?_
  refine lv_iadd hx hb dL_law_1035 ?_
  refine va_sld hx hb hX hbl hbA hS (in_s hi (k := 1) (by decide)) dL_law_1036 ?_
  obtain ⟨r1, h1, hq, hM1⟩ := CALL_met (l := l) (dC := dC) (dI := dI) (ρ := ρ) (σ := σ) (a := a) pp_X8_loses (Nat.le_of_ble_eq_true rfl) (k_X8_loses h hI (xs (i + 1).toNatClampNeg))
  obtain ⟨hI1, fr1, -, z1, rfl, -⟩ := hq
  refine c_L (n := 1) (v := 0) (As := [.inl (xs (i + 1).toNatClampNeg)]) (rest := []) ⟨hx, hb, hml, hown, hT⟩ hK hM hA hP hD hS pp_X8_loses hM1 sh_0 mw_351 mw_352 mw_353 mw_168 (by decide +kernel) rfl ⟨Nat.le_of_ble_eq_true rfl, Nat.le_of_ble_eq_true rfl⟩ hl.1 (Nat.le_of_ble_eq_true rfl) rfl dL_law_1037 ⟨Nat.le_of_ble_eq_true rfl, Nat.le_of_ble_eq_true rfl⟩ (fun H locs hP hD hS => ?_)
  have hI := hI1
  show LG p l e s m b below meth c H locs (F0 m 1040 ls [.int z1])
  refine lv_pop hx hb dL_law_1040 rfl ?_
  refine lv_aload_n hx hb dL_law_1041 rfl (lv_at hl 2 rfl) ?_
  refine lv_aload_n hx hb dL_law_1042 rfl (lv_at hl 0 rfl) ?_
  refine lv_iload_n hx hb dL_law_1043 rfl (lv_at hl 3 rfl) ?_
  refine lv_iconst (v := 1) hx hb dL_law_1044 (by decide) ?_
  refine lv_iadd hx hb dL_law_1045 ?_
  refine va_sld hx hb hX hbl hbA hS (in_s hi (k := 1) (by decide)) dL_law_1046 ?_
  obtain ⟨r2, h2, hq, hM1⟩ := CALL_met (l := l) (dC := dC) (dI := dI) (ρ := ρ) (σ := σ) (a := a) pp_X9_loses (Nat.le_of_ble_eq_true rfl) (k_X9_loses h1 hI (xs (i + 1).toNatClampNeg))
  obtain ⟨hI2, fr2, -, z2, rfl, -⟩ := hq
  refine c_L (n := 1) (v := 96) (As := [.inl (xs (i + 1).toNatClampNeg)]) (rest := []) ⟨hx, hb, hml, hown, hT⟩ hK hM hA hP hD hS pp_X9_loses hM1 sh_96 mw_354 mw_355 mw_356 mw_173 (by decide +kernel) rfl ⟨Nat.le_of_ble_eq_true rfl, Nat.le_of_ble_eq_true rfl⟩ hl.1 (Nat.le_of_ble_eq_true rfl) rfl dL_law_1047 ⟨Nat.le_of_ble_eq_true rfl, Nat.le_of_ble_eq_true rfl⟩ (fun H locs hP hD hS => ?_)
  have hI := hI2
  show LG p l e s m b below meth c H locs (F0 m 1050 ls [.int z2])
  refine lv_pop hx hb dL_law_1050 rfl ?_
  refine lv_goto (tgt := 2146) hx hb dL_law_1051 (by decide) ?_
  exact hend _ _ _ _ hI (REL_fr fr1 fr2 (by decide) (by decide) hJ) hP hD hS hl

set_option maxRecDepth 100000 in
set_option maxHeartbeats 4000000 in
theorem lc_30 {p : Program} {l : Launch} {e : Env} {s : State} {m : MethodId} {below : List Frame} {meth : Method} {c : Code} {dC : Nat → ClassId} {dI : Nat → Nat → Nat} {b L : Nat} {xs : Nat → Int32} {H : Heap} {locs : List Loc} {ls : Array Slot} {ρ : Nat → Nat} {σ : Nat → Option Nat} {a : Nat → ClassId} {h : PH} {i : Int32} (C0 : lw_At p s m meth c b L xs) (hK : va_K (dC, dI) vwCl (tysP a) s) (hM : AMB σ (fun q : Nat => s.heap.size ≤ q) s s.heap) (hI : INV h) (hJ : REL h) (hP : va_P (dC, dI) vwCl (toW ρ a h) H) (hD : va_D (fun q : Nat => s.heap.size ≤ q) (toW ρ a h)) (hS : va_S (fun q : Nat => s.heap.size ≤ q) s.heap H locs) (hl : lv_has ls 4 [(0, .ref b), (1, .ref (ρ 0)), (2, .ref (ρ 96)), (3, .int i)]) (hi : 0 ≤ i.toInt ∧ i.toInt + 6 ≤ (L : Int) ∧ L ≤ 384) (hend : ∀ (H : Heap) (locs : List Loc) (ls : Array Slot) (h : PH), INV h → REL h → va_P (dC, dI) vwCl (toW ρ a h) H → va_D (fun q : Nat => s.heap.size ≤ q) (toW ρ a h) → va_S (fun q : Nat => s.heap.size ≤ q) s.heap H locs → lv_has ls 4 [(0, .ref b), (1, .ref (ρ 0)), (2, .ref (ρ 96)), (3, .int i)] → LG p l e s m b below meth c H locs (F0 m 2146 ls [])) : LG p l e s m b below meth c H locs (F0 m 1054 ls []) := by
  obtain ⟨hx, hb, hr, hml, hown, hts, hX, hbl, hlocks, hgv⟩ := C0
  have hT : ∀ w ∈ TB, w.before #[Value.ref b] s = true := fun w h => hts w (TB_lw h)
  have hown : s.vm.findClass RL = some m.cls := hown
  have hA : ∀ q : Nat, s.heap.size ≤ q → (fun q : Nat => s.heap.size ≤ q) q := fun _ h => h
  have hbA : ¬ (fun q : Nat => s.heap.size ≤ q) b := Nat.not_le.mpr hbl
  refine lv_aload_n hx hb dL_law_1054 rfl (lv_at hl 1 rfl) ?_
  obtain ⟨r1, h1, hq, hM1⟩ := CALL_met (l := l) (dC := dC) (dI := dI) (ρ := ρ) (σ := σ) (a := a) pp_X8_lazy (Nat.le_of_ble_eq_true rfl) (k_X8_lazy h hI )
  obtain ⟨hI1, fr1, -, z1, rfl, -⟩ := hq
  refine c_L (n := 0) (v := 0) (As := []) (rest := []) ⟨hx, hb, hml, hown, hT⟩ hK hM hA hP hD hS pp_X8_lazy hM1 sh_0 mw_357 mw_358 mw_359 mw_168 (by decide +kernel) rfl ⟨Nat.le_of_ble_eq_true rfl, Nat.le_of_ble_eq_true rfl⟩ hl.1 (Nat.le_of_ble_eq_true rfl) rfl dL_law_1055 ⟨Nat.le_of_ble_eq_true rfl, Nat.le_of_ble_eq_true rfl⟩ (fun H locs hP hD hS => ?_)
  have hI := hI1
  show LG p l e s m b below meth c H locs (F0 m 1058 ls [.int z1])
  refine lv_pop hx hb dL_law_1058 rfl ?_
  refine lv_aload_n hx hb dL_law_1059 rfl (lv_at hl 2 rfl) ?_
  obtain ⟨r2, h2, hq, hM1⟩ := CALL_met (l := l) (dC := dC) (dI := dI) (ρ := ρ) (σ := σ) (a := a) pp_X9_lazy (Nat.le_of_ble_eq_true rfl) (k_X9_lazy h1 hI )
  obtain ⟨hI2, fr2, -, z2, rfl, -⟩ := hq
  refine c_L (n := 0) (v := 96) (As := []) (rest := []) ⟨hx, hb, hml, hown, hT⟩ hK hM hA hP hD hS pp_X9_lazy hM1 sh_96 mw_360 mw_361 mw_362 mw_173 (by decide +kernel) rfl ⟨Nat.le_of_ble_eq_true rfl, Nat.le_of_ble_eq_true rfl⟩ hl.1 (Nat.le_of_ble_eq_true rfl) rfl dL_law_1060 ⟨Nat.le_of_ble_eq_true rfl, Nat.le_of_ble_eq_true rfl⟩ (fun H locs hP hD hS => ?_)
  have hI := hI2
  show LG p l e s m b below meth c H locs (F0 m 1063 ls [.int z2])
  refine lv_pop hx hb dL_law_1063 rfl ?_
  refine lv_goto (tgt := 2146) hx hb dL_law_1064 (by decide) ?_
  exact hend _ _ _ _ hI (REL_fr fr1 fr2 (by decide) (by decide) hJ) hP hD hS hl
set_option maxRecDepth 100000 in
set_option maxHeartbeats 4000000 in
theorem lc_31 {p : Program} {l : Launch} {e : Env} {s : State} {m : MethodId} {below : List Frame} {meth : Method} {c : Code} {dC : Nat → ClassId} {dI : Nat → Nat → Nat} {b L : Nat} {xs : Nat → Int32} {H : Heap} {locs : List Loc} {ls : Array Slot} {ρ : Nat → Nat} {σ : Nat → Option Nat} {a : Nat → ClassId} {h : PH} {i : Int32} (C0 : lw_At p s m meth c b L xs) (hK : va_K (dC, dI) vwCl (tysP a) s) (hM : AMB σ (fun q : Nat => s.heap.size ≤ q) s s.heap) (hI : INV h) (hJ : REL h) (hP : va_P (dC, dI) vwCl (toW ρ a h) H) (hD : va_D (fun q : Nat => s.heap.size ≤ q) (toW ρ a h)) (hS : va_S (fun q : Nat => s.heap.size ≤ q) s.heap H locs) (hl : lv_has ls 4 [(0, .ref b), (1, .ref (ρ 0)), (2, .ref (ρ 96)), (3, .int i)]) (hi : 0 ≤ i.toInt ∧ i.toInt + 6 ≤ (L : Int) ∧ L ≤ 384) (hend : ∀ (H : Heap) (locs : List Loc) (ls : Array Slot) (h : PH), INV h → REL h → va_P (dC, dI) vwCl (toW ρ a h) H → va_D (fun q : Nat => s.heap.size ≤ q) (toW ρ a h) → va_S (fun q : Nat => s.heap.size ≤ q) s.heap H locs → lv_has ls 4 [(0, .ref b), (1, .ref (ρ 0)), (2, .ref (ρ 96)), (3, .int i)] → LG p l e s m b below meth c H locs (F0 m 2146 ls [])) : LG p l e s m b below meth c H locs (F0 m 1067 ls []) := by
  obtain ⟨hx, hb, hr, hml, hown, hts, hX, hbl, hlocks, hgv⟩ := C0
  have hT : ∀ w ∈ TB, w.before #[Value.ref b] s = true := fun w h => hts w (TB_lw h)
  have hown : s.vm.findClass RL = some m.cls := hown
  have hA : ∀ q : Nat, s.heap.size ≤ q → (fun q : Nat => s.heap.size ≤ q) q := fun _ h => h
  have hbA : ¬ (fun q : Nat => s.heap.size ≤ q) b := Nat.not_le.mpr hbl
  refine lv_aload_n hx hb dL_law_1067 rfl (lv_at hl 1 rfl) ?_
  obtain ⟨r1, h1, hq, hM1⟩ := CALL_met (l := l) (dC := dC) (dI := dI) (ρ := ρ) (σ := σ) (a := a) pp_X8_queue (Nat.le_of_ble_eq_true rfl) (k_X8_queue h hI )
  obtain ⟨hI1, fr1, -, z1, rfl, -⟩ := hq
  refine c_L (n := 0) (v := 0) (As := []) (rest := []) ⟨hx, hb, hml, hown, hT⟩ hK hM hA hP hD hS pp_X8_queue hM1 sh_0 mw_363 mw_364 mw_365 mw_168 (by decide +kernel) rfl ⟨Nat.le_of_ble_eq_true rfl, Nat.le_of_ble_eq_true rfl⟩ hl.1 (Nat.le_of_ble_eq_true rfl) rfl dL_law_1068 ⟨Nat.le_of_ble_eq_true rfl, Nat.le_of_ble_eq_true rfl⟩ (fun H locs hP hD hS => ?_)
  have hI := hI1
  show LG p l e s m b below meth c H locs (F0 m 1071 ls [.int z1])
  refine lv_pop hx hb dL_law_1071 rfl ?_
  refine lv_aload_n hx hb dL_law_1072 rfl (lv_at hl 2 rfl) ?_
  obtain ⟨r2, h2, hq, hM1⟩ := CALL_met (l := l) (dC := dC) (dI := dI) (ρ := ρ) (σ := σ) (a := a) pp_X9_queue (Nat.le_of_ble_eq_true rfl) (k_X9_queue h1 hI )
  obtain ⟨hI2, fr2, -, z2, rfl, -⟩ := hq
  refine c_L (n := 0) (v := 96) (As := []) (rest := []) ⟨hx, hb, hml, hown, hT⟩ hK hM hA hP hD hS pp_X9_queue hM1 sh_96 mw_366 mw_367 mw_368 mw_173 (by decide +kernel) rfl ⟨Nat.le_of_ble_eq_true rfl, Nat.le_of_ble_eq_true rfl⟩ hl.1 (Nat.le_of_ble_eq_true rfl) rfl dL_law_1073 ⟨Nat.le_of_ble_eq_true rfl, Nat.le_of_ble_eq_true rfl⟩ (fun H locs hP hD hS => ?_)
  have hI := hI2
  show LG p l e s m b below meth c H locs (F0 m 1076 ls [.int z2])
  refine lv_pop hx hb dL_law_1076 rfl ?_
  refine lv_goto (tgt := 2146) hx hb dL_law_1077 (by decide) ?_
  exact hend _ _ _ _ hI (REL_fr fr1 fr2 (by decide) (by decide) hJ) hP hD hS hl
set_option maxRecDepth 100000 in
set_option maxHeartbeats 4000000 in
theorem lc_32 {p : Program} {l : Launch} {e : Env} {s : State} {m : MethodId} {below : List Frame} {meth : Method} {c : Code} {dC : Nat → ClassId} {dI : Nat → Nat → Nat} {b L : Nat} {xs : Nat → Int32} {H : Heap} {locs : List Loc} {ls : Array Slot} {ρ : Nat → Nat} {σ : Nat → Option Nat} {a : Nat → ClassId} {h : PH} {i : Int32} (C0 : lw_At p s m meth c b L xs) (hK : va_K (dC, dI) vwCl (tysP a) s) (hM : AMB σ (fun q : Nat => s.heap.size ≤ q) s s.heap) (hI : INV h) (hJ : REL h) (hP : va_P (dC, dI) vwCl (toW ρ a h) H) (hD : va_D (fun q : Nat => s.heap.size ≤ q) (toW ρ a h)) (hS : va_S (fun q : Nat => s.heap.size ≤ q) s.heap H locs) (hl : lv_has ls 4 [(0, .ref b), (1, .ref (ρ 0)), (2, .ref (ρ 96)), (3, .int i)]) (hi : 0 ≤ i.toInt ∧ i.toInt + 6 ≤ (L : Int) ∧ L ≤ 384) (hend : ∀ (H : Heap) (locs : List Loc) (ls : Array Slot) (h : PH), INV h → REL h → va_P (dC, dI) vwCl (toW ρ a h) H → va_D (fun q : Nat => s.heap.size ≤ q) (toW ρ a h) → va_S (fun q : Nat => s.heap.size ≤ q) s.heap H locs → lv_has ls 4 [(0, .ref b), (1, .ref (ρ 0)), (2, .ref (ρ 96)), (3, .int i)] → LG p l e s m b below meth c H locs (F0 m 2146 ls [])) : LG p l e s m b below meth c H locs (F0 m 1080 ls []) := by
  obtain ⟨hx, hb, hr, hml, hown, hts, hX, hbl, hlocks, hgv⟩ := C0
  have hT : ∀ w ∈ TB, w.before #[Value.ref b] s = true := fun w h => hts w (TB_lw h)
  have hown : s.vm.findClass RL = some m.cls := hown
  have hA : ∀ q : Nat, s.heap.size ≤ q → (fun q : Nat => s.heap.size ≤ q) q := fun _ h => h
  have hbA : ¬ (fun q : Nat => s.heap.size ≤ q) b := Nat.not_le.mpr hbl
  refine lv_aload_n hx hb dL_law_1080 rfl (lv_at hl 1 rfl) ?_
  obtain ⟨r1, h1, hq, hM1⟩ := CALL_met (l := l) (dC := dC) (dI := dI) (ρ := ρ) (σ := σ) (a := a) pp_X8_kept (Nat.le_of_ble_eq_true rfl) (k_X8_kept h hI )
  obtain ⟨rfl, z1, rfl, -⟩ := hq
  refine c_L (n := 0) (v := 0) (As := []) (rest := []) ⟨hx, hb, hml, hown, hT⟩ hK hM hA hP hD hS pp_X8_kept hM1 sh_0 mw_369 mw_370 mw_371 mw_168 (by decide +kernel) rfl ⟨Nat.le_of_ble_eq_true rfl, Nat.le_of_ble_eq_true rfl⟩ hl.1 (Nat.le_of_ble_eq_true rfl) rfl dL_law_1081 ⟨Nat.le_of_ble_eq_true rfl, Nat.le_of_ble_eq_true rfl⟩ (fun H locs hP hD hS => ?_)
  show LG p l e s m b below meth c H locs (F0 m 1084 ls [.int z1])
  refine lv_pop hx hb dL_law_1084 rfl ?_
  refine lv_aload_n hx hb dL_law_1085 rfl (lv_at hl 2 rfl) ?_
  obtain ⟨r2, h2, hq, hM1⟩ := CALL_met (l := l) (dC := dC) (dI := dI) (ρ := ρ) (σ := σ) (a := a) pp_X9_kept (Nat.le_of_ble_eq_true rfl) (k_X9_kept h hI )
  obtain ⟨hI2, fr2, -, z2, rfl, -⟩ := hq
  refine c_L (n := 0) (v := 96) (As := []) (rest := []) ⟨hx, hb, hml, hown, hT⟩ hK hM hA hP hD hS pp_X9_kept hM1 sh_96 mw_372 mw_373 mw_374 mw_173 (by decide +kernel) rfl ⟨Nat.le_of_ble_eq_true rfl, Nat.le_of_ble_eq_true rfl⟩ hl.1 (Nat.le_of_ble_eq_true rfl) rfl dL_law_1086 ⟨Nat.le_of_ble_eq_true rfl, Nat.le_of_ble_eq_true rfl⟩ (fun H locs hP hD hS => ?_)
  have hI := hI2
  show LG p l e s m b below meth c H locs (F0 m 1089 ls [.int z2])
  refine lv_pop hx hb dL_law_1089 rfl ?_
  refine lv_goto (tgt := 2146) hx hb dL_law_1090 (by decide) ?_
  exact hend _ _ _ _ hI (REL_fr (FR.rf [] h) fr2 (by decide) (by decide) hJ) hP hD hS hl
set_option maxRecDepth 100000 in
set_option maxHeartbeats 4000000 in
theorem lc_33 {p : Program} {l : Launch} {e : Env} {s : State} {m : MethodId} {below : List Frame} {meth : Method} {c : Code} {dC : Nat → ClassId} {dI : Nat → Nat → Nat} {b L : Nat} {xs : Nat → Int32} {H : Heap} {locs : List Loc} {ls : Array Slot} {ρ : Nat → Nat} {σ : Nat → Option Nat} {a : Nat → ClassId} {h : PH} {i : Int32} (C0 : lw_At p s m meth c b L xs) (hK : va_K (dC, dI) vwCl (tysP a) s) (hM : AMB σ (fun q : Nat => s.heap.size ≤ q) s s.heap) (hI : INV h) (hJ : REL h) (hP : va_P (dC, dI) vwCl (toW ρ a h) H) (hD : va_D (fun q : Nat => s.heap.size ≤ q) (toW ρ a h)) (hS : va_S (fun q : Nat => s.heap.size ≤ q) s.heap H locs) (hl : lv_has ls 4 [(0, .ref b), (1, .ref (ρ 0)), (2, .ref (ρ 96)), (3, .int i)]) (hi : 0 ≤ i.toInt ∧ i.toInt + 6 ≤ (L : Int) ∧ L ≤ 384) (hend : ∀ (H : Heap) (locs : List Loc) (ls : Array Slot) (h : PH), INV h → REL h → va_P (dC, dI) vwCl (toW ρ a h) H → va_D (fun q : Nat => s.heap.size ≤ q) (toW ρ a h) → va_S (fun q : Nat => s.heap.size ≤ q) s.heap H locs → lv_has ls 4 [(0, .ref b), (1, .ref (ρ 0)), (2, .ref (ρ 96)), (3, .int i)] → LG p l e s m b below meth c H locs (F0 m 2146 ls [])) : LG p l e s m b below meth c H locs (F0 m 1093 ls []) := by
  obtain ⟨hx, hb, hr, hml, hown, hts, hX, hbl, hlocks, hgv⟩ := C0
  have hT : ∀ w ∈ TB, w.before #[Value.ref b] s = true := fun w h => hts w (TB_lw h)
  have hown : s.vm.findClass RL = some m.cls := hown
  have hA : ∀ q : Nat, s.heap.size ≤ q → (fun q : Nat => s.heap.size ≤ q) q := fun _ h => h
  have hbA : ¬ (fun q : Nat => s.heap.size ≤ q) b := Nat.not_le.mpr hbl
  refine lv_aload_n hx hb dL_law_1093 rfl (lv_at hl 1 rfl) ?_
  refine lv_aload_n hx hb dL_law_1094 rfl (lv_at hl 0 rfl) ?_
  refine lv_iload_n hx hb dL_law_1095 rfl (lv_at hl 3 rfl) ?_
  refine lv_iconst (v := 1) hx hb dL_law_1096 (by decide) ?_
  refine lv_iadd hx hb dL_law_1097 ?_
  refine va_sld hx hb hX hbl hbA hS (in_s hi (k := 1) (by decide)) dL_law_1098 ?_
  obtain ⟨r1, h1, hq, hM1⟩ := CALL_met (l := l) (dC := dC) (dI := dI) (ρ := ρ) (σ := σ) (a := a) pp_X8_until (Nat.le_of_ble_eq_true rfl) (k_X8_until h hI (xs (i + 1).toNatClampNeg))
  obtain ⟨hI1, fr1, -, z1, rfl, -⟩ := hq
  refine c_L (n := 1) (v := 0) (As := [.inl (xs (i + 1).toNatClampNeg)]) (rest := []) ⟨hx, hb, hml, hown, hT⟩ hK hM hA hP hD hS pp_X8_until hM1 sh_0 mw_375 mw_376 mw_377 mw_168 (by decide +kernel) rfl ⟨Nat.le_of_ble_eq_true rfl, Nat.le_of_ble_eq_true rfl⟩ hl.1 (Nat.le_of_ble_eq_true rfl) rfl dL_law_1099 ⟨Nat.le_of_ble_eq_true rfl, Nat.le_of_ble_eq_true rfl⟩ (fun H locs hP hD hS => ?_)
  have hI := hI1
  show LG p l e s m b below meth c H locs (F0 m 1102 ls [.int z1])
  refine lv_pop hx hb dL_law_1102 rfl ?_
  refine lv_aload_n hx hb dL_law_1103 rfl (lv_at hl 2 rfl) ?_
  refine lv_aload_n hx hb dL_law_1104 rfl (lv_at hl 0 rfl) ?_
  refine lv_iload_n hx hb dL_law_1105 rfl (lv_at hl 3 rfl) ?_
  refine lv_iconst (v := 1) hx hb dL_law_1106 (by decide) ?_
  refine lv_iadd hx hb dL_law_1107 ?_
  refine va_sld hx hb hX hbl hbA hS (in_s hi (k := 1) (by decide)) dL_law_1108 ?_
  obtain ⟨r2, h2, hq, hM1⟩ := CALL_met (l := l) (dC := dC) (dI := dI) (ρ := ρ) (σ := σ) (a := a) pp_X9_until (Nat.le_of_ble_eq_true rfl) (k_X9_until h1 hI (xs (i + 1).toNatClampNeg))
  obtain ⟨hI2, fr2, -, z2, rfl, -⟩ := hq
  refine c_L (n := 1) (v := 96) (As := [.inl (xs (i + 1).toNatClampNeg)]) (rest := []) ⟨hx, hb, hml, hown, hT⟩ hK hM hA hP hD hS pp_X9_until hM1 sh_96 mw_378 mw_379 mw_380 mw_173 (by decide +kernel) rfl ⟨Nat.le_of_ble_eq_true rfl, Nat.le_of_ble_eq_true rfl⟩ hl.1 (Nat.le_of_ble_eq_true rfl) rfl dL_law_1109 ⟨Nat.le_of_ble_eq_true rfl, Nat.le_of_ble_eq_true rfl⟩ (fun H locs hP hD hS => ?_)
  have hI := hI2
  show LG p l e s m b below meth c H locs (F0 m 1112 ls [.int z2])
  refine lv_pop hx hb dL_law_1112 rfl ?_
  refine lv_goto (tgt := 2146) hx hb dL_law_1113 (by decide) ?_
  exact hend _ _ _ _ hI (REL_fr fr1 fr2 (by decide) (by decide) hJ) hP hD hS hl
set_option maxRecDepth 100000 in
set_option maxHeartbeats 4000000 in
theorem lc_34 {p : Program} {l : Launch} {e : Env} {s : State} {m : MethodId} {below : List Frame} {meth : Method} {c : Code} {dC : Nat → ClassId} {dI : Nat → Nat → Nat} {b L : Nat} {xs : Nat → Int32} {H : Heap} {locs : List Loc} {ls : Array Slot} {ρ : Nat → Nat} {σ : Nat → Option Nat} {a : Nat → ClassId} {h : PH} {i : Int32} (C0 : lw_At p s m meth c b L xs) (hK : va_K (dC, dI) vwCl (tysP a) s) (hM : AMB σ (fun q : Nat => s.heap.size ≤ q) s s.heap) (hI : INV h) (hJ : REL h) (hP : va_P (dC, dI) vwCl (toW ρ a h) H) (hD : va_D (fun q : Nat => s.heap.size ≤ q) (toW ρ a h)) (hS : va_S (fun q : Nat => s.heap.size ≤ q) s.heap H locs) (hl : lv_has ls 4 [(0, .ref b), (1, .ref (ρ 0)), (2, .ref (ρ 96)), (3, .int i)]) (hi : 0 ≤ i.toInt ∧ i.toInt + 6 ≤ (L : Int) ∧ L ≤ 384) (hend : ∀ (H : Heap) (locs : List Loc) (ls : Array Slot) (h : PH), INV h → REL h → va_P (dC, dI) vwCl (toW ρ a h) H → va_D (fun q : Nat => s.heap.size ≤ q) (toW ρ a h) → va_S (fun q : Nat => s.heap.size ≤ q) s.heap H locs → lv_has ls 4 [(0, .ref b), (1, .ref (ρ 0)), (2, .ref (ρ 96)), (3, .int i)] → LG p l e s m b below meth c H locs (F0 m 2146 ls [])) : LG p l e s m b below meth c H locs (F0 m 1116 ls []) := by
  obtain ⟨hx, hb, hr, hml, hown, hts, hX, hbl, hlocks, hgv⟩ := C0
  have hT : ∀ w ∈ TB, w.before #[Value.ref b] s = true := fun w h => hts w (TB_lw h)
  have hown : s.vm.findClass RL = some m.cls := hown
  have hA : ∀ q : Nat, s.heap.size ≤ q → (fun q : Nat => s.heap.size ≤ q) q := fun _ h => h
  have hbA : ¬ (fun q : Nat => s.heap.size ≤ q) b := Nat.not_le.mpr hbl
  refine lv_aload_n hx hb dL_law_1116 rfl (lv_at hl 1 rfl) ?_
  refine lv_aload_n hx hb dL_law_1117 rfl (lv_at hl 0 rfl) ?_
  refine lv_iload_n hx hb dL_law_1118 rfl (lv_at hl 3 rfl) ?_
  refine lv_iconst (v := 1) hx hb dL_law_1119 (by decide) ?_
  refine lv_iadd hx hb dL_law_1120 ?_
  refine va_sld hx hb hX hbl hbA hS (in_s hi (k := 1) (by decide)) dL_law_1121 ?_
  obtain ⟨r1, h1, hq, hM1⟩ := CALL_met (l := l) (dC := dC) (dI := dI) (ρ := ρ) (σ := σ) (a := a) pp_X8_with (Nat.le_of_ble_eq_true rfl) (k_X8_with h hI (xs (i + 1).toNatClampNeg))
  obtain ⟨hI1, fr1, -, z1, rfl, -⟩ := hq
  refine c_L (n := 1) (v := 0) (As := [.inl (xs (i + 1).toNatClampNeg)]) (rest := []) ⟨hx, hb, hml, hown, hT⟩ hK hM hA hP hD hS pp_X8_with hM1 sh_0 mw_381 mw_382 mw_383 mw_168 (by decide +kernel) rfl ⟨Nat.le_of_ble_eq_true rfl, Nat.le_of_ble_eq_true rfl⟩ hl.1 (Nat.le_of_ble_eq_true rfl) rfl dL_law_1122 ⟨Nat.le_of_ble_eq_true rfl, Nat.le_of_ble_eq_true rfl⟩ (fun H locs hP hD hS => ?_)
  have hI := hI1
  show LG p l e s m b below meth c H locs (F0 m 1125 ls [.int z1])
  refine lv_pop hx hb dL_law_1125 rfl ?_
  refine lv_aload_n hx hb dL_law_1126 rfl (lv_at hl 2 rfl) ?_
  refine lv_aload_n hx hb dL_law_1127 rfl (lv_at hl 0 rfl) ?_
  refine lv_iload_n hx hb dL_law_1128 rfl (lv_at hl 3 rfl) ?_
  refine lv_iconst (v := 1) hx hb dL_law_1129 (by decide) ?_
  refine lv_iadd hx hb dL_law_1130 ?_
  refine va_sld hx hb hX hbl hbA hS (in_s hi (k := 1) (by decide)) dL_law_1131 ?_
  obtain ⟨r2, h2, hq, hM1⟩ := CALL_met (l := l) (dC := dC) (dI := dI) (ρ := ρ) (σ := σ) (a := a) pp_X9_with (Nat.le_of_ble_eq_true rfl) (k_X9_with h1 hI (xs (i + 1).toNatClampNeg))
  obtain ⟨hI2, fr2, -, z2, rfl, -⟩ := hq
  refine c_L (n := 1) (v := 96) (As := [.inl (xs (i + 1).toNatClampNeg)]) (rest := []) ⟨hx, hb, hml, hown, hT⟩ hK hM hA hP hD hS pp_X9_with hM1 sh_96 mw_384 mw_385 mw_386 mw_173 (by decide +kernel) rfl ⟨Nat.le_of_ble_eq_true rfl, Nat.le_of_ble_eq_true rfl⟩ hl.1 (Nat.le_of_ble_eq_true rfl) rfl dL_law_1132 ⟨Nat.le_of_ble_eq_true rfl, Nat.le_of_ble_eq_true rfl⟩ (fun H locs hP hD hS => ?_)
  have hI := hI2
  show LG p l e s m b below meth c H locs (F0 m 1135 ls [.int z2])
  refine lv_pop hx hb dL_law_1135 rfl ?_
  refine lv_goto (tgt := 2146) hx hb dL_law_1136 (by decide) ?_
  exact hend _ _ _ _ hI (REL_fr fr1 fr2 (by decide) (by decide) hJ) hP hD hS hl
set_option maxRecDepth 100000 in
set_option maxHeartbeats 4000000 in
theorem lc_35 {p : Program} {l : Launch} {e : Env} {s : State} {m : MethodId} {below : List Frame} {meth : Method} {c : Code} {dC : Nat → ClassId} {dI : Nat → Nat → Nat} {b L : Nat} {xs : Nat → Int32} {H : Heap} {locs : List Loc} {ls : Array Slot} {ρ : Nat → Nat} {σ : Nat → Option Nat} {a : Nat → ClassId} {h : PH} {i : Int32} (C0 : lw_At p s m meth c b L xs) (hK : va_K (dC, dI) vwCl (tysP a) s) (hM : AMB σ (fun q : Nat => s.heap.size ≤ q) s s.heap) (hI : INV h) (hJ : REL h) (hP : va_P (dC, dI) vwCl (toW ρ a h) H) (hD : va_D (fun q : Nat => s.heap.size ≤ q) (toW ρ a h)) (hS : va_S (fun q : Nat => s.heap.size ≤ q) s.heap H locs) (hl : lv_has ls 4 [(0, .ref b), (1, .ref (ρ 0)), (2, .ref (ρ 96)), (3, .int i)]) (hi : 0 ≤ i.toInt ∧ i.toInt + 6 ≤ (L : Int) ∧ L ≤ 384) (hend : ∀ (H : Heap) (locs : List Loc) (ls : Array Slot) (h : PH), INV h → REL h → va_P (dC, dI) vwCl (toW ρ a h) H → va_D (fun q : Nat => s.heap.size ≤ q) (toW ρ a h) → va_S (fun q : Nat => s.heap.size ≤ q) s.heap H locs → lv_has ls 4 [(0, .ref b), (1, .ref (ρ 0)), (2, .ref (ρ 96)), (3, .int i)] → LG p l e s m b below meth c H locs (F0 m 2146 ls [])) : LG p l e s m b below meth c H locs (F0 m 1139 ls []) := by
  obtain ⟨hx, hb, hr, hml, hown, hts, hX, hbl, hlocks, hgv⟩ := C0
  have hT : ∀ w ∈ TB, w.before #[Value.ref b] s = true := fun w h => hts w (TB_lw h)
  have hown : s.vm.findClass RL = some m.cls := hown
  have hA : ∀ q : Nat, s.heap.size ≤ q → (fun q : Nat => s.heap.size ≤ q) q := fun _ h => h
  have hbA : ¬ (fun q : Nat => s.heap.size ≤ q) b := Nat.not_le.mpr hbl
  refine lv_aload_n hx hb dL_law_1139 rfl (lv_at hl 1 rfl) ?_
  refine lv_aload_n hx hb dL_law_1140 rfl (lv_at hl 0 rfl) ?_
  refine lv_iload_n hx hb dL_law_1141 rfl (lv_at hl 3 rfl) ?_
  refine lv_iconst (v := 1) hx hb dL_law_1142 (by decide) ?_
  refine lv_iadd hx hb dL_law_1143 ?_
  refine va_sld hx hb hX hbl hbA hS (in_s hi (k := 1) (by decide)) dL_law_1144 ?_
  obtain ⟨r1, h1, hq, hM1⟩ := CALL_met (l := l) (dC := dC) (dI := dI) (ρ := ρ) (σ := σ) (a := a) pp_X8_ease (Nat.le_of_ble_eq_true rfl) (k_X8_ease h hI (xs (i + 1).toNatClampNeg))
  obtain ⟨hI1, fr1, -, z1, rfl, -⟩ := hq
  refine c_L (n := 1) (v := 0) (As := [.inl (xs (i + 1).toNatClampNeg)]) (rest := []) ⟨hx, hb, hml, hown, hT⟩ hK hM hA hP hD hS pp_X8_ease hM1 sh_0 mw_387 mw_388 mw_389 mw_168 (by decide +kernel) rfl ⟨Nat.le_of_ble_eq_true rfl, Nat.le_of_ble_eq_true rfl⟩ hl.1 (Nat.le_of_ble_eq_true rfl) rfl dL_law_1145 ⟨Nat.le_of_ble_eq_true rfl, Nat.le_of_ble_eq_true rfl⟩ (fun H locs hP hD hS => ?_)
  have hI := hI1
  show LG p l e s m b below meth c H locs (F0 m 1148 ls [.int z1])
  refine lv_pop hx hb dL_law_1148 rfl ?_
  refine lv_aload_n hx hb dL_law_1149 rfl (lv_at hl 2 rfl) ?_
  refine lv_aload_n hx hb dL_law_1150 rfl (lv_at hl 0 rfl) ?_
  refine lv_iload_n hx hb dL_law_1151 rfl (lv_at hl 3 rfl) ?_
  refine lv_iconst (v := 1) hx hb dL_law_1152 (by decide) ?_
  refine lv_iadd hx hb dL_law_1153 ?_
  refine va_sld hx hb hX hbl hbA hS (in_s hi (k := 1) (by decide)) dL_law_1154 ?_
  obtain ⟨r2, h2, hq, hM1⟩ := CALL_met (l := l) (dC := dC) (dI := dI) (ρ := ρ) (σ := σ) (a := a) pp_X9_ease (Nat.le_of_ble_eq_true rfl) (k_X9_ease h1 hI (xs (i + 1).toNatClampNeg))
  obtain ⟨hI2, fr2, -, z2, rfl, -⟩ := hq
  refine c_L (n := 1) (v := 96) (As := [.inl (xs (i + 1).toNatClampNeg)]) (rest := []) ⟨hx, hb, hml, hown, hT⟩ hK hM hA hP hD hS pp_X9_ease hM1 sh_96 mw_390 mw_391 mw_392 mw_173 (by decide +kernel) rfl ⟨Nat.le_of_ble_eq_true rfl, Nat.le_of_ble_eq_true rfl⟩ hl.1 (Nat.le_of_ble_eq_true rfl) rfl dL_law_1155 ⟨Nat.le_of_ble_eq_true rfl, Nat.le_of_ble_eq_true rfl⟩ (fun H locs hP hD hS => ?_)
  have hI := hI2
  show LG p l e s m b below meth c H locs (F0 m 1158 ls [.int z2])
  refine lv_pop hx hb dL_law_1158 rfl ?_
  refine lv_goto (tgt := 2146) hx hb dL_law_1159 (by decide) ?_
  exact hend _ _ _ _ hI (REL_fr fr1 fr2 (by decide) (by decide) hJ) hP hD hS hl
set_option maxRecDepth 100000 in
set_option maxHeartbeats 4000000 in
theorem lc_36 {p : Program} {l : Launch} {e : Env} {s : State} {m : MethodId} {below : List Frame} {meth : Method} {c : Code} {dC : Nat → ClassId} {dI : Nat → Nat → Nat} {b L : Nat} {xs : Nat → Int32} {H : Heap} {locs : List Loc} {ls : Array Slot} {ρ : Nat → Nat} {σ : Nat → Option Nat} {a : Nat → ClassId} {h : PH} {i : Int32} (C0 : lw_At p s m meth c b L xs) (hK : va_K (dC, dI) vwCl (tysP a) s) (hM : AMB σ (fun q : Nat => s.heap.size ≤ q) s s.heap) (hI : INV h) (hJ : REL h) (hP : va_P (dC, dI) vwCl (toW ρ a h) H) (hD : va_D (fun q : Nat => s.heap.size ≤ q) (toW ρ a h)) (hS : va_S (fun q : Nat => s.heap.size ≤ q) s.heap H locs) (hl : lv_has ls 4 [(0, .ref b), (1, .ref (ρ 0)), (2, .ref (ρ 96)), (3, .int i)]) (hi : 0 ≤ i.toInt ∧ i.toInt + 6 ≤ (L : Int) ∧ L ≤ 384) (hend : ∀ (H : Heap) (locs : List Loc) (ls : Array Slot) (h : PH), INV h → REL h → va_P (dC, dI) vwCl (toW ρ a h) H → va_D (fun q : Nat => s.heap.size ≤ q) (toW ρ a h) → va_S (fun q : Nat => s.heap.size ≤ q) s.heap H locs → lv_has ls 4 [(0, .ref b), (1, .ref (ρ 0)), (2, .ref (ρ 96)), (3, .int i)] → LG p l e s m b below meth c H locs (F0 m 2146 ls [])) : LG p l e s m b below meth c H locs (F0 m 1162 ls []) := by
  obtain ⟨hx, hb, hr, hml, hown, hts, hX, hbl, hlocks, hgv⟩ := C0
  have hT : ∀ w ∈ TB, w.before #[Value.ref b] s = true := fun w h => hts w (TB_lw h)
  have hown : s.vm.findClass RL = some m.cls := hown
  have hA : ∀ q : Nat, s.heap.size ≤ q → (fun q : Nat => s.heap.size ≤ q) q := fun _ h => h
  have hbA : ¬ (fun q : Nat => s.heap.size ≤ q) b := Nat.not_le.mpr hbl
  refine lv_aload_n hx hb dL_law_1162 rfl (lv_at hl 1 rfl) ?_
  refine lv_aload_n hx hb dL_law_1163 rfl (lv_at hl 0 rfl) ?_
  refine lv_iload_n hx hb dL_law_1164 rfl (lv_at hl 3 rfl) ?_
  refine lv_iconst (v := 1) hx hb dL_law_1165 (by decide) ?_
  refine lv_iadd hx hb dL_law_1166 ?_
  refine va_sld hx hb hX hbl hbA hS (in_s hi (k := 1) (by decide)) dL_law_1167 ?_
  obtain ⟨r1, h1, hq, hM1⟩ := CALL_met (l := l) (dC := dC) (dI := dI) (ρ := ρ) (σ := σ) (a := a) pp_X8_without (Nat.le_of_ble_eq_true rfl) (k_X8_without h hI (xs (i + 1).toNatClampNeg))
  obtain ⟨hI1, fr1, -, z1, rfl, -⟩ := hq
  refine c_L (n := 1) (v := 0) (As := [.inl (xs (i + 1).toNatClampNeg)]) (rest := []) ⟨hx, hb, hml, hown, hT⟩ hK hM hA hP hD hS pp_X8_without hM1 sh_0 mw_393 mw_394 mw_395 mw_168 (by decide +kernel) rfl ⟨Nat.le_of_ble_eq_true rfl, Nat.le_of_ble_eq_true rfl⟩ hl.1 (Nat.le_of_ble_eq_true rfl) rfl dL_law_1168 ⟨Nat.le_of_ble_eq_true rfl, Nat.le_of_ble_eq_true rfl⟩ (fun H locs hP hD hS => ?_)
  have hI := hI1
  show LG p l e s m b below meth c H locs (F0 m 1171 ls [.int z1])
  refine lv_pop hx hb dL_law_1171 rfl ?_
  refine lv_aload_n hx hb dL_law_1172 rfl (lv_at hl 2 rfl) ?_
  refine lv_aload_n hx hb dL_law_1173 rfl (lv_at hl 0 rfl) ?_
  refine lv_iload_n hx hb dL_law_1174 rfl (lv_at hl 3 rfl) ?_
  refine lv_iconst (v := 1) hx hb dL_law_1175 (by decide) ?_
  refine lv_iadd hx hb dL_law_1176 ?_
  refine va_sld hx hb hX hbl hbA hS (in_s hi (k := 1) (by decide)) dL_law_1177 ?_
  obtain ⟨r2, h2, hq, hM1⟩ := CALL_met (l := l) (dC := dC) (dI := dI) (ρ := ρ) (σ := σ) (a := a) pp_X9_without (Nat.le_of_ble_eq_true rfl) (k_X9_without h1 hI (xs (i + 1).toNatClampNeg))
  obtain ⟨hI2, fr2, -, z2, rfl, -⟩ := hq
  refine c_L (n := 1) (v := 96) (As := [.inl (xs (i + 1).toNatClampNeg)]) (rest := []) ⟨hx, hb, hml, hown, hT⟩ hK hM hA hP hD hS pp_X9_without hM1 sh_96 mw_396 mw_397 mw_398 mw_173 (by decide +kernel) rfl ⟨Nat.le_of_ble_eq_true rfl, Nat.le_of_ble_eq_true rfl⟩ hl.1 (Nat.le_of_ble_eq_true rfl) rfl dL_law_1178 ⟨Nat.le_of_ble_eq_true rfl, Nat.le_of_ble_eq_true rfl⟩ (fun H locs hP hD hS => ?_)
  have hI := hI2
  show LG p l e s m b below meth c H locs (F0 m 1181 ls [.int z2])
  refine lv_pop hx hb dL_law_1181 rfl ?_
  refine lv_goto (tgt := 2146) hx hb dL_law_1182 (by decide) ?_
  exact hend _ _ _ _ hI (REL_fr fr1 fr2 (by decide) (by decide) hJ) hP hD hS hl
set_option maxRecDepth 100000 in
set_option maxHeartbeats 4000000 in
theorem lc_37 {p : Program} {l : Launch} {e : Env} {s : State} {m : MethodId} {below : List Frame} {meth : Method} {c : Code} {dC : Nat → ClassId} {dI : Nat → Nat → Nat} {b L : Nat} {xs : Nat → Int32} {H : Heap} {locs : List Loc} {ls : Array Slot} {ρ : Nat → Nat} {σ : Nat → Option Nat} {a : Nat → ClassId} {h : PH} {i : Int32} (C0 : lw_At p s m meth c b L xs) (hK : va_K (dC, dI) vwCl (tysP a) s) (hM : AMB σ (fun q : Nat => s.heap.size ≤ q) s s.heap) (hI : INV h) (hJ : REL h) (hP : va_P (dC, dI) vwCl (toW ρ a h) H) (hD : va_D (fun q : Nat => s.heap.size ≤ q) (toW ρ a h)) (hS : va_S (fun q : Nat => s.heap.size ≤ q) s.heap H locs) (hl : lv_has ls 4 [(0, .ref b), (1, .ref (ρ 0)), (2, .ref (ρ 96)), (3, .int i)]) (hi : 0 ≤ i.toInt ∧ i.toInt + 6 ≤ (L : Int) ∧ L ≤ 384) (hend : ∀ (H : Heap) (locs : List Loc) (ls : Array Slot) (h : PH), INV h → REL h → va_P (dC, dI) vwCl (toW ρ a h) H → va_D (fun q : Nat => s.heap.size ≤ q) (toW ρ a h) → va_S (fun q : Nat => s.heap.size ≤ q) s.heap H locs → lv_has ls 4 [(0, .ref b), (1, .ref (ρ 0)), (2, .ref (ρ 96)), (3, .int i)] → LG p l e s m b below meth c H locs (F0 m 2146 ls [])) : LG p l e s m b below meth c H locs (F0 m 1185 ls []) := by
  obtain ⟨hx, hb, hr, hml, hown, hts, hX, hbl, hlocks, hgv⟩ := C0
  have hT : ∀ w ∈ TB, w.before #[Value.ref b] s = true := fun w h => hts w (TB_lw h)
  have hown : s.vm.findClass RL = some m.cls := hown
  have hA : ∀ q : Nat, s.heap.size ≤ q → (fun q : Nat => s.heap.size ≤ q) q := fun _ h => h
  have hbA : ¬ (fun q : Nat => s.heap.size ≤ q) b := Nat.not_le.mpr hbl
  refine lv_aload_n hx hb dL_law_1185 rfl (lv_at hl 1 rfl) ?_
  obtain ⟨r1, h1, hq, hM1⟩ := CALL_met (l := l) (dC := dC) (dI := dI) (ρ := ρ) (σ := σ) (a := a) pp_X8_settles (Nat.le_of_ble_eq_true rfl) (k_X8_settles h hI )
  obtain ⟨hI1, fr1, -, z1, rfl, -⟩ := hq
  refine c_L (n := 0) (v := 0) (As := []) (rest := []) ⟨hx, hb, hml, hown, hT⟩ hK hM hA hP hD hS pp_X8_settles hM1 sh_0 mw_399 mw_400 mw_401 mw_168 (by decide +kernel) rfl ⟨Nat.le_of_ble_eq_true rfl, Nat.le_of_ble_eq_true rfl⟩ hl.1 (Nat.le_of_ble_eq_true rfl) rfl dL_law_1186 ⟨Nat.le_of_ble_eq_true rfl, Nat.le_of_ble_eq_true rfl⟩ (fun H locs hP hD hS => ?_)
  have hI := hI1
  show LG p l e s m b below meth c H locs (F0 m 1189 ls [.int z1])
  refine lv_pop hx hb dL_law_1189 rfl ?_
  refine lv_aload_n hx hb dL_law_1190 rfl (lv_at hl 2 rfl) ?_
  obtain ⟨r2, h2, hq, hM1⟩ := CALL_met (l := l) (dC := dC) (dI := dI) (ρ := ρ) (σ := σ) (a := a) pp_X9_settles (Nat.le_of_ble_eq_true rfl) (k_X9_settles h1 hI )
  obtain ⟨hI2, fr2, -, z2, rfl, -⟩ := hq
  refine c_L (n := 0) (v := 96) (As := []) (rest := []) ⟨hx, hb, hml, hown, hT⟩ hK hM hA hP hD hS pp_X9_settles hM1 sh_96 mw_402 mw_403 mw_404 mw_173 (by decide +kernel) rfl ⟨Nat.le_of_ble_eq_true rfl, Nat.le_of_ble_eq_true rfl⟩ hl.1 (Nat.le_of_ble_eq_true rfl) rfl dL_law_1191 ⟨Nat.le_of_ble_eq_true rfl, Nat.le_of_ble_eq_true rfl⟩ (fun H locs hP hD hS => ?_)
  have hI := hI2
  show LG p l e s m b below meth c H locs (F0 m 1194 ls [.int z2])
  refine lv_pop hx hb dL_law_1194 rfl ?_
  refine lv_goto (tgt := 2146) hx hb dL_law_1195 (by decide) ?_
  exact hend _ _ _ _ hI (REL_fr fr1 fr2 (by decide) (by decide) hJ) hP hD hS hl
set_option maxRecDepth 100000 in
set_option maxHeartbeats 4000000 in
theorem lc_38 {p : Program} {l : Launch} {e : Env} {s : State} {m : MethodId} {below : List Frame} {meth : Method} {c : Code} {dC : Nat → ClassId} {dI : Nat → Nat → Nat} {b L : Nat} {xs : Nat → Int32} {H : Heap} {locs : List Loc} {ls : Array Slot} {ρ : Nat → Nat} {σ : Nat → Option Nat} {a : Nat → ClassId} {h : PH} {i : Int32} (C0 : lw_At p s m meth c b L xs) (hK : va_K (dC, dI) vwCl (tysP a) s) (hM : AMB σ (fun q : Nat => s.heap.size ≤ q) s s.heap) (hI : INV h) (hJ : REL h) (hP : va_P (dC, dI) vwCl (toW ρ a h) H) (hD : va_D (fun q : Nat => s.heap.size ≤ q) (toW ρ a h)) (hS : va_S (fun q : Nat => s.heap.size ≤ q) s.heap H locs) (hl : lv_has ls 4 [(0, .ref b), (1, .ref (ρ 0)), (2, .ref (ρ 96)), (3, .int i)]) (hi : 0 ≤ i.toInt ∧ i.toInt + 6 ≤ (L : Int) ∧ L ≤ 384) (hend : ∀ (H : Heap) (locs : List Loc) (ls : Array Slot) (h : PH), INV h → REL h → va_P (dC, dI) vwCl (toW ρ a h) H → va_D (fun q : Nat => s.heap.size ≤ q) (toW ρ a h) → va_S (fun q : Nat => s.heap.size ≤ q) s.heap H locs → lv_has ls 4 [(0, .ref b), (1, .ref (ρ 0)), (2, .ref (ρ 96)), (3, .int i)] → LG p l e s m b below meth c H locs (F0 m 2146 ls [])) : LG p l e s m b below meth c H locs (F0 m 1198 ls []) := by
  obtain ⟨hx, hb, hr, hml, hown, hts, hX, hbl, hlocks, hgv⟩ := C0
  have hT : ∀ w ∈ TB, w.before #[Value.ref b] s = true := fun w h => hts w (TB_lw h)
  have hown : s.vm.findClass RL = some m.cls := hown
  have hA : ∀ q : Nat, s.heap.size ≤ q → (fun q : Nat => s.heap.size ≤ q) q := fun _ h => h
  have hbA : ¬ (fun q : Nat => s.heap.size ≤ q) b := Nat.not_le.mpr hbl
  refine lv_aload_n hx hb dL_law_1198 rfl (lv_at hl 1 rfl) ?_
  obtain ⟨r1, h1, hq, hM1⟩ := CALL_met (l := l) (dC := dC) (dI := dI) (ρ := ρ) (σ := σ) (a := a) pp_X8_round (Nat.le_of_ble_eq_true rfl) (k_X8_round h hI )
  obtain ⟨hI1, fr1, -, z1, rfl, -⟩ := hq
  refine c_L (n := 0) (v := 0) (As := []) (rest := []) ⟨hx, hb, hml, hown, hT⟩ hK hM hA hP hD hS pp_X8_round hM1 sh_0 mw_405 mw_406 mw_407 mw_168 (by decide +kernel) rfl ⟨Nat.le_of_ble_eq_true rfl, Nat.le_of_ble_eq_true rfl⟩ hl.1 (Nat.le_of_ble_eq_true rfl) rfl dL_law_1199 ⟨Nat.le_of_ble_eq_true rfl, Nat.le_of_ble_eq_true rfl⟩ (fun H locs hP hD hS => ?_)
  have hI := hI1
  show LG p l e s m b below meth c H locs (F0 m 1202 ls [.int z1])
  refine lv_pop hx hb dL_law_1202 rfl ?_
  refine lv_aload_n hx hb dL_law_1203 rfl (lv_at hl 2 rfl) ?_
  obtain ⟨r2, h2, hq, hM1⟩ := CALL_met (l := l) (dC := dC) (dI := dI) (ρ := ρ) (σ := σ) (a := a) pp_X9_round (Nat.le_of_ble_eq_true rfl) (k_X9_round h1 hI )
  obtain ⟨hI2, fr2, -, z2, rfl, -⟩ := hq
  refine c_L (n := 0) (v := 96) (As := []) (rest := []) ⟨hx, hb, hml, hown, hT⟩ hK hM hA hP hD hS pp_X9_round hM1 sh_96 mw_408 mw_409 mw_410 mw_173 (by decide +kernel) rfl ⟨Nat.le_of_ble_eq_true rfl, Nat.le_of_ble_eq_true rfl⟩ hl.1 (Nat.le_of_ble_eq_true rfl) rfl dL_law_1204 ⟨Nat.le_of_ble_eq_true rfl, Nat.le_of_ble_eq_true rfl⟩ (fun H locs hP hD hS => ?_)
  have hI := hI2
  show LG p l e s m b below meth c H locs (F0 m 1207 ls [.int z2])
  refine lv_pop hx hb dL_law_1207 rfl ?_
  refine lv_goto (tgt := 2146) hx hb dL_law_1208 (by decide) ?_
  exact hend _ _ _ _ hI (REL_fr fr1 fr2 (by decide) (by decide) hJ) hP hD hS hl
set_option maxRecDepth 100000 in
set_option maxHeartbeats 4000000 in
theorem lc_39 {p : Program} {l : Launch} {e : Env} {s : State} {m : MethodId} {below : List Frame} {meth : Method} {c : Code} {dC : Nat → ClassId} {dI : Nat → Nat → Nat} {b L : Nat} {xs : Nat → Int32} {H : Heap} {locs : List Loc} {ls : Array Slot} {ρ : Nat → Nat} {σ : Nat → Option Nat} {a : Nat → ClassId} {h : PH} {i : Int32} (C0 : lw_At p s m meth c b L xs) (hK : va_K (dC, dI) vwCl (tysP a) s) (hM : AMB σ (fun q : Nat => s.heap.size ≤ q) s s.heap) (hI : INV h) (hJ : REL h) (hP : va_P (dC, dI) vwCl (toW ρ a h) H) (hD : va_D (fun q : Nat => s.heap.size ≤ q) (toW ρ a h)) (hS : va_S (fun q : Nat => s.heap.size ≤ q) s.heap H locs) (hl : lv_has ls 4 [(0, .ref b), (1, .ref (ρ 0)), (2, .ref (ρ 96)), (3, .int i)]) (hi : 0 ≤ i.toInt ∧ i.toInt + 6 ≤ (L : Int) ∧ L ≤ 384) (hend : ∀ (H : Heap) (locs : List Loc) (ls : Array Slot) (h : PH), INV h → REL h → va_P (dC, dI) vwCl (toW ρ a h) H → va_D (fun q : Nat => s.heap.size ≤ q) (toW ρ a h) → va_S (fun q : Nat => s.heap.size ≤ q) s.heap H locs → lv_has ls 4 [(0, .ref b), (1, .ref (ρ 0)), (2, .ref (ρ 96)), (3, .int i)] → LG p l e s m b below meth c H locs (F0 m 2146 ls [])) : LG p l e s m b below meth c H locs (F0 m 1211 ls []) := by
  obtain ⟨hx, hb, hr, hml, hown, hts, hX, hbl, hlocks, hgv⟩ := C0
  have hT : ∀ w ∈ TB, w.before #[Value.ref b] s = true := fun w h => hts w (TB_lw h)
  have hown : s.vm.findClass RL = some m.cls := hown
  have hA : ∀ q : Nat, s.heap.size ≤ q → (fun q : Nat => s.heap.size ≤ q) q := fun _ h => h
  have hbA : ¬ (fun q : Nat => s.heap.size ≤ q) b := Nat.not_le.mpr hbl
  refine lv_aload_n hx hb dL_law_1211 rfl (lv_at hl 1 rfl) ?_
  refine lv_aload_n hx hb dL_law_1212 rfl (lv_at hl 0 rfl) ?_
  refine lv_iload_n hx hb dL_law_1213 rfl (lv_at hl 3 rfl) ?_
  refine lv_iconst (v := 1) hx hb dL_law_1214 (by decide) ?_
  refine lv_iadd hx hb dL_law_1215 ?_
  refine va_sld hx hb hX hbl hbA hS (in_s hi (k := 1) (by decide)) dL_law_1216 ?_
  obtain ⟨r1, h1, hq, hM1⟩ := CALL_met (l := l) (dC := dC) (dI := dI) (ρ := ρ) (σ := σ) (a := a) pp_X8_rate (Nat.le_of_ble_eq_true rfl) (k_X8_rate h hI (xs (i + 1).toNatClampNeg))
  obtain ⟨hI1, fr1, -, z1, rfl, -⟩ := hq
  refine c_L (n := 1) (v := 0) (As := [.inl (xs (i + 1).toNatClampNeg)]) (rest := []) ⟨hx, hb, hml, hown, hT⟩ hK hM hA hP hD hS pp_X8_rate hM1 sh_0 mw_411 mw_412 mw_413 mw_168 (by decide +kernel) rfl ⟨Nat.le_of_ble_eq_true rfl, Nat.le_of_ble_eq_true rfl⟩ hl.1 (Nat.le_of_ble_eq_true rfl) rfl dL_law_1217 ⟨Nat.le_of_ble_eq_true rfl, Nat.le_of_ble_eq_true rfl⟩ (fun H locs hP hD hS => ?_)
  have hI := hI1
  show LG p l e s m b below meth c H locs (F0 m 1220 ls [.int z1])
  refine lv_pop hx hb dL_law_1220 rfl ?_
  refine lv_aload_n hx hb dL_law_1221 rfl (lv_at hl 2 rfl) ?_
  refine lv_aload_n hx hb dL_law_1222 rfl (lv_at hl 0 rfl) ?_
  refine lv_iload_n hx hb dL_law_1223 rfl (lv_at hl 3 rfl) ?_
  refine lv_iconst (v := 1) hx hb dL_law_1224 (by decide) ?_
  refine lv_iadd hx hb dL_law_1225 ?_
  refine va_sld hx hb hX hbl hbA hS (in_s hi (k := 1) (by decide)) dL_law_1226 ?_
  obtain ⟨r2, h2, hq, hM1⟩ := CALL_met (l := l) (dC := dC) (dI := dI) (ρ := ρ) (σ := σ) (a := a) pp_X9_rate (Nat.le_of_ble_eq_true rfl) (k_X9_rate h1 hI (xs (i + 1).toNatClampNeg))
  obtain ⟨hI2, fr2, -, z2, rfl, -⟩ := hq
  refine c_L (n := 1) (v := 96) (As := [.inl (xs (i + 1).toNatClampNeg)]) (rest := []) ⟨hx, hb, hml, hown, hT⟩ hK hM hA hP hD hS pp_X9_rate hM1 sh_96 mw_414 mw_415 mw_416 mw_173 (by decide +kernel) rfl ⟨Nat.le_of_ble_eq_true rfl, Nat.le_of_ble_eq_true rfl⟩ hl.1 (Nat.le_of_ble_eq_true rfl) rfl dL_law_1227 ⟨Nat.le_of_ble_eq_true rfl, Nat.le_of_ble_eq_true rfl⟩ (fun H locs hP hD hS => ?_)
  have hI := hI2
  show LG p l e s m b below meth c H locs (F0 m 1230 ls [.int z2])
  refine lv_pop hx hb dL_law_1230 rfl ?_
  refine lv_goto (tgt := 2146) hx hb dL_law_1231 (by decide) ?_
  exact hend _ _ _ _ hI (REL_fr fr1 fr2 (by decide) (by decide) hJ) hP hD hS hl
