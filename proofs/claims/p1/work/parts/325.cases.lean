set_option maxRecDepth 100000 in
set_option maxHeartbeats 4000000 in
theorem lc_50 {p : Program} {l : Launch} {e : Env} {s : State} {m : MethodId} {below : List Frame} {meth : Method} {c : Code} {dC : Nat → ClassId} {dI : Nat → Nat → Nat} {b : Nat} {xs : Nat → Int32} {H : Heap} {locs : List Loc} {ls : Array Slot} (gx : Nat → Nat) (ax : Nat → ClassId) (gm : Nat → Nat) (am : Nat → ClassId) (C0 : lw_At p s m meth c b 6 xs) (hK : va_K (dC, dI) vwCl (tX ax ++ tM am) s) (hP : va_P (dC, dI) vwCl (wX gx ax ++ wM gm am) H) (hD : va_D (fun q : Nat => s.heap.size ≤ q) (wX gx ax ++ wM gm am)) (hS : va_S (fun q : Nat => s.heap.size ≤ q) s.heap H locs) (hl : lv_has ls 4 [(0, .ref b), (1, .ref (gx 0)), (2, .ref (gm 0)), (3, .int 0)]) (hend : (∀ (H : Heap) (locs : List Loc) (ls : Array Slot), va_S (fun q : Nat => s.heap.size ≤ q) s.heap H locs → lv_has ls 4 [(0, .ref b), (1, .ref (gx 0)), (2, .ref (gm 0)), (3, .int 0)] → LG p l e s m b below meth c H locs (F0 m 2148 ls []))) : LG p l e s m b below meth c H locs (F0 m 1374 ls []) := by
  obtain ⟨hx, hb, hr, hml, hown, hts, hX, hbl, hlocks, hgv⟩ := C0
  have hT : ∀ w ∈ TB, w.before #[Value.ref b] s = true := fun w h => hts w (TB_lw h)
  have hown : s.vm.findClass RL = some m.cls := hown
  have hA : ∀ q : Nat, s.heap.size ≤ q → (fun q : Nat => s.heap.size ≤ q) q := fun _ h => h
  have hbA : ¬ (fun q : Nat => s.heap.size ≤ q) b := Nat.not_le.mpr hbl
  refine lv_aload_n hx hb dL_law_1374 rfl (lv_at hl 1 rfl) ?_
  refine c_Vi (C := RX8) (As := []) (rest := []) (wr := (wM gm am)) (n := 0) ⟨hx, hb, hml, hown, hT⟩ (k_X8_let l dC dI gx ax ) hK hP hD hS hA [12] rfl [0, 16, 17] [74, 75, 76, 77, 78, 79, 80, 81, 82, 83, 84, 85, 86, 87] rfl rfl rfl rfl (by decide) rfl rfl mw_802 mw_803 mw_804 mw_69 mw_805 (by decide +kernel) ⟨Nat.le_of_ble_eq_true rfl, Nat.le_of_ble_eq_true rfl⟩ ⟨rfl, rfl⟩ rfl hl.1 (Nat.le_of_ble_eq_true rfl) rfl dL_law_1375 ⟨Nat.le_of_ble_eq_true rfl, Nat.le_of_ble_eq_true rfl⟩ (fun r1 f1 H locs er1 hP hD hS => ?_)
  have er1 : r1 = (-2) := er1
  have hP : va_P (dC, dI) vwCl (wM gm am) H := hP
  have hD : va_D (fun q : Nat => s.heap.size ≤ q) (wM gm am) := hD
  refine lv_aload_n hx hb dL_law_1378 rfl (lv_at hl 2 rfl) ?_
  refine c_Vi (C := RX9) (As := []) (rest := [.int r1]) (wr := []) (n := 0) ⟨hx, hb, hml, hown, hT⟩ (k_X9_let l dC dI gm am ) hK hP hD hS hA [63] rfl [0, 1] [] rfl rfl rfl rfl (by decide) rfl rfl mw_806 mw_807 mw_808 mw_19 mw_809 (by decide +kernel) ⟨Nat.le_of_ble_eq_true rfl, Nat.le_of_ble_eq_true rfl⟩ ⟨rfl, rfl⟩ rfl hl.1 (Nat.le_of_ble_eq_true rfl) rfl dL_law_1379 ⟨Nat.le_of_ble_eq_true rfl, Nat.le_of_ble_eq_true rfl⟩ (fun r2 f2 H locs er2 hP hD hS => ?_)
  have er2 : r2 = (-2) := er2
  exact lv_icmp_eq (tgt := 2148) hx hb dL_law_1382 (by decide) (fun _ => hend _ _ _ hS hl) (fun c9 => absurd (er1.trans er2.symm) c9)
set_option maxRecDepth 100000 in
set_option maxHeartbeats 4000000 in
theorem lc_51 {p : Program} {l : Launch} {e : Env} {s : State} {m : MethodId} {below : List Frame} {meth : Method} {c : Code} {dC : Nat → ClassId} {dI : Nat → Nat → Nat} {b : Nat} {xs : Nat → Int32} {H : Heap} {locs : List Loc} {ls : Array Slot} (gx : Nat → Nat) (ax : Nat → ClassId) (gm : Nat → Nat) (am : Nat → ClassId) (C0 : lw_At p s m meth c b 6 xs) (hK : va_K (dC, dI) vwCl (tX ax ++ tM am) s) (hP : va_P (dC, dI) vwCl (wX gx ax ++ wM gm am) H) (hD : va_D (fun q : Nat => s.heap.size ≤ q) (wX gx ax ++ wM gm am)) (hS : va_S (fun q : Nat => s.heap.size ≤ q) s.heap H locs) (hl : lv_has ls 4 [(0, .ref b), (1, .ref (gx 0)), (2, .ref (gm 0)), (3, .int 0)]) (hend : (∀ (H : Heap) (locs : List Loc) (ls : Array Slot), va_S (fun q : Nat => s.heap.size ≤ q) s.heap H locs → lv_has ls 4 [(0, .ref b), (1, .ref (gx 0)), (2, .ref (gm 0)), (3, .int 0)] → LG p l e s m b below meth c H locs (F0 m 2148 ls []))) : LG p l e s m b below meth c H locs (F0 m 1387 ls []) := by
  obtain ⟨hx, hb, hr, hml, hown, hts, hX, hbl, hlocks, hgv⟩ := C0
  have hT : ∀ w ∈ TB, w.before #[Value.ref b] s = true := fun w h => hts w (TB_lw h)
  have hown : s.vm.findClass RL = some m.cls := hown
  have hA : ∀ q : Nat, s.heap.size ≤ q → (fun q : Nat => s.heap.size ≤ q) q := fun _ h => h
  have hbA : ¬ (fun q : Nat => s.heap.size ≤ q) b := Nat.not_le.mpr hbl
  refine lv_aload_n hx hb dL_law_1387 rfl (lv_at hl 1 rfl) ?_
  refine lv_aload_n hx hb dL_law_1388 rfl (lv_at hl 0 rfl) ?_
  refine lv_iload_n hx hb dL_law_1389 rfl (lv_at hl 3 rfl) ?_
  refine lv_iconst (v := 1) hx hb dL_law_1390 (by decide) ?_
  refine lv_iadd hx hb dL_law_1391 ?_
  refine t_i 1 (by decide) ?_
  refine va_sld hx hb hX hbl hbA hS (by unfold vp_in; decide) dL_law_1392 ?_
  refine c_Vi (C := RX8) (As := [.int (xs (1 : Int32).toNatClampNeg)]) (rest := []) (wr := (wM gm am)) (n := 1) ⟨hx, hb, hml, hown, hT⟩ (k_X8_fits l dC dI gx ax (xs (1 : Int32).toNatClampNeg)) hK hP hD hS hA [12] rfl [0, 66, 16, 17] [74, 75, 76, 77, 78, 79, 80, 81, 82, 83, 84, 85, 86, 87] rfl rfl rfl rfl (by decide) rfl rfl mw_810 mw_811 mw_812 mw_69 mw_813 (by decide +kernel) ⟨Nat.le_of_ble_eq_true rfl, Nat.le_of_ble_eq_true rfl⟩ ⟨rfl, rfl⟩ rfl hl.1 (Nat.le_of_ble_eq_true rfl) rfl dL_law_1393 ⟨Nat.le_of_ble_eq_true rfl, Nat.le_of_ble_eq_true rfl⟩ (fun r1 f1 H locs er1 hP hD hS => ?_)
  have er1 : r1 = (-2) := er1
  have hP : va_P (dC, dI) vwCl (wM gm am) H := hP
  have hD : va_D (fun q : Nat => s.heap.size ≤ q) (wM gm am) := hD
  refine lv_aload_n hx hb dL_law_1396 rfl (lv_at hl 2 rfl) ?_
  refine lv_aload_n hx hb dL_law_1397 rfl (lv_at hl 0 rfl) ?_
  refine lv_iload_n hx hb dL_law_1398 rfl (lv_at hl 3 rfl) ?_
  refine lv_iconst (v := 1) hx hb dL_law_1399 (by decide) ?_
  refine lv_iadd hx hb dL_law_1400 ?_
  refine t_i 1 (by decide) ?_
  refine va_sld hx hb hX hbl hbA hS (by unfold vp_in; decide) dL_law_1401 ?_
  refine c_Vi (C := RX9) (As := [.int (xs (1 : Int32).toNatClampNeg)]) (rest := [.int r1]) (wr := []) (n := 1) ⟨hx, hb, hml, hown, hT⟩ (k_X9_fits l dC dI gm am (xs (1 : Int32).toNatClampNeg)) hK hP hD hS hA [63] rfl [0, 1] [] rfl rfl rfl rfl (by decide) rfl rfl mw_814 mw_815 mw_816 mw_19 mw_817 (by decide +kernel) ⟨Nat.le_of_ble_eq_true rfl, Nat.le_of_ble_eq_true rfl⟩ ⟨rfl, rfl⟩ rfl hl.1 (Nat.le_of_ble_eq_true rfl) rfl dL_law_1402 ⟨Nat.le_of_ble_eq_true rfl, Nat.le_of_ble_eq_true rfl⟩ (fun r2 f2 H locs er2 hP hD hS => ?_)
  have er2 : r2 = (-2) := er2
  exact lv_icmp_eq (tgt := 2148) hx hb dL_law_1405 (by decide) (fun _ => hend _ _ _ hS hl) (fun c9 => absurd (er1.trans er2.symm) c9)
set_option maxRecDepth 100000 in
set_option maxHeartbeats 4000000 in
theorem lc_52 {p : Program} {l : Launch} {e : Env} {s : State} {m : MethodId} {below : List Frame} {meth : Method} {c : Code} {dC : Nat → ClassId} {dI : Nat → Nat → Nat} {b : Nat} {xs : Nat → Int32} {H : Heap} {locs : List Loc} {ls : Array Slot} (gx : Nat → Nat) (ax : Nat → ClassId) (gm : Nat → Nat) (am : Nat → ClassId) (C0 : lw_At p s m meth c b 6 xs) (hK : va_K (dC, dI) vwCl (tX ax ++ tM am) s) (hP : va_P (dC, dI) vwCl (wX gx ax ++ wM gm am) H) (hD : va_D (fun q : Nat => s.heap.size ≤ q) (wX gx ax ++ wM gm am)) (hS : va_S (fun q : Nat => s.heap.size ≤ q) s.heap H locs) (hl : lv_has ls 4 [(0, .ref b), (1, .ref (gx 0)), (2, .ref (gm 0)), (3, .int 0)]) (hend : (∀ (H : Heap) (locs : List Loc) (ls : Array Slot), va_S (fun q : Nat => s.heap.size ≤ q) s.heap H locs → lv_has ls 4 [(0, .ref b), (1, .ref (gx 0)), (2, .ref (gm 0)), (3, .int 0)] → LG p l e s m b below meth c H locs (F0 m 2148 ls []))) : LG p l e s m b below meth c H locs (F0 m 1410 ls []) := by
  obtain ⟨hx, hb, hr, hml, hown, hts, hX, hbl, hlocks, hgv⟩ := C0
  have hT : ∀ w ∈ TB, w.before #[Value.ref b] s = true := fun w h => hts w (TB_lw h)
  have hown : s.vm.findClass RL = some m.cls := hown
  have hA : ∀ q : Nat, s.heap.size ≤ q → (fun q : Nat => s.heap.size ≤ q) q := fun _ h => h
  have hbA : ¬ (fun q : Nat => s.heap.size ≤ q) b := Nat.not_le.mpr hbl
  refine lv_aload_n hx hb dL_law_1410 rfl (lv_at hl 1 rfl) ?_
  refine lv_aload_n hx hb dL_law_1411 rfl (lv_at hl 0 rfl) ?_
  refine lv_iload_n hx hb dL_law_1412 rfl (lv_at hl 3 rfl) ?_
  refine lv_iconst (v := 1) hx hb dL_law_1413 (by decide) ?_
  refine lv_iadd hx hb dL_law_1414 ?_
  refine t_i 1 (by decide) ?_
  refine va_sld hx hb hX hbl hbA hS (by unfold vp_in; decide) dL_law_1415 ?_
  refine lv_aload_n hx hb dL_law_1416 rfl (lv_at hl 0 rfl) ?_
  refine lv_iload_n hx hb dL_law_1417 rfl (lv_at hl 3 rfl) ?_
  refine lv_iconst (v := 2) hx hb dL_law_1418 (by decide) ?_
  refine lv_iadd hx hb dL_law_1419 ?_
  refine t_i 2 (by decide) ?_
  refine va_sld hx hb hX hbl hbA hS (by unfold vp_in; decide) dL_law_1420 ?_
  refine c_Vi (C := RX8) (As := [.int (xs (1 : Int32).toNatClampNeg), .int (xs (2 : Int32).toNatClampNeg)]) (rest := []) (wr := (wM gm am)) (n := 2) ⟨hx, hb, hml, hown, hT⟩ (k_X8_may l dC dI gx ax (xs (1 : Int32).toNatClampNeg) (xs (2 : Int32).toNatClampNeg)) hK hP hD hS hA [12] rfl [0, 16, 17] [74, 75, 76, 77, 78, 79, 80, 81, 82, 83, 84, 85, 86, 87] rfl rfl rfl rfl (by decide) rfl rfl mw_818 mw_819 mw_820 mw_69 mw_821 (by decide +kernel) ⟨Nat.le_of_ble_eq_true rfl, Nat.le_of_ble_eq_true rfl⟩ ⟨rfl, rfl⟩ rfl hl.1 (Nat.le_of_ble_eq_true rfl) rfl dL_law_1421 ⟨Nat.le_of_ble_eq_true rfl, Nat.le_of_ble_eq_true rfl⟩ (fun r1 f1 H locs er1 hP hD hS => ?_)
  have er1 : r1 = (-2) := er1
  have hP : va_P (dC, dI) vwCl (wM gm am) H := hP
  have hD : va_D (fun q : Nat => s.heap.size ≤ q) (wM gm am) := hD
  refine lv_aload_n hx hb dL_law_1424 rfl (lv_at hl 2 rfl) ?_
  refine lv_aload_n hx hb dL_law_1425 rfl (lv_at hl 0 rfl) ?_
  refine lv_iload_n hx hb dL_law_1426 rfl (lv_at hl 3 rfl) ?_
  refine lv_iconst (v := 1) hx hb dL_law_1427 (by decide) ?_
  refine lv_iadd hx hb dL_law_1428 ?_
  refine t_i 1 (by decide) ?_
  refine va_sld hx hb hX hbl hbA hS (by unfold vp_in; decide) dL_law_1429 ?_
  refine lv_aload_n hx hb dL_law_1430 rfl (lv_at hl 0 rfl) ?_
  refine lv_iload_n hx hb dL_law_1431 rfl (lv_at hl 3 rfl) ?_
  refine lv_iconst (v := 2) hx hb dL_law_1432 (by decide) ?_
  refine lv_iadd hx hb dL_law_1433 ?_
  refine t_i 2 (by decide) ?_
  refine va_sld hx hb hX hbl hbA hS (by unfold vp_in; decide) dL_law_1434 ?_
  refine c_Vi (C := RX9) (As := [.int (xs (1 : Int32).toNatClampNeg), .int (xs (2 : Int32).toNatClampNeg)]) (rest := [.int r1]) (wr := []) (n := 2) ⟨hx, hb, hml, hown, hT⟩ (k_X9_may l dC dI gm am (xs (1 : Int32).toNatClampNeg) (xs (2 : Int32).toNatClampNeg)) hK hP hD hS hA [63] rfl [0, 1] [] rfl rfl rfl rfl (by decide) rfl rfl mw_822 mw_823 mw_824 mw_19 mw_825 (by decide +kernel) ⟨Nat.le_of_ble_eq_true rfl, Nat.le_of_ble_eq_true rfl⟩ ⟨rfl, rfl⟩ rfl hl.1 (Nat.le_of_ble_eq_true rfl) rfl dL_law_1435 ⟨Nat.le_of_ble_eq_true rfl, Nat.le_of_ble_eq_true rfl⟩ (fun r2 f2 H locs er2 hP hD hS => ?_)
  have er2 : r2 = (-2) := er2
  exact lv_icmp_eq (tgt := 2148) hx hb dL_law_1438 (by decide) (fun _ => hend _ _ _ hS hl) (fun c9 => absurd (er1.trans er2.symm) c9)
set_option maxRecDepth 100000 in
set_option maxHeartbeats 4000000 in
theorem lc_53 {p : Program} {l : Launch} {e : Env} {s : State} {m : MethodId} {below : List Frame} {meth : Method} {c : Code} {dC : Nat → ClassId} {dI : Nat → Nat → Nat} {b : Nat} {xs : Nat → Int32} {H : Heap} {locs : List Loc} {ls : Array Slot} (gx : Nat → Nat) (ax : Nat → ClassId) (gm : Nat → Nat) (am : Nat → ClassId) (C0 : lw_At p s m meth c b 6 xs) (hK : va_K (dC, dI) vwCl (tX ax ++ tM am) s) (hP : va_P (dC, dI) vwCl (wX gx ax ++ wM gm am) H) (hD : va_D (fun q : Nat => s.heap.size ≤ q) (wX gx ax ++ wM gm am)) (hS : va_S (fun q : Nat => s.heap.size ≤ q) s.heap H locs) (hl : lv_has ls 4 [(0, .ref b), (1, .ref (gx 0)), (2, .ref (gm 0)), (3, .int 0)]) (hend : (∀ (H : Heap) (locs : List Loc) (ls : Array Slot), va_S (fun q : Nat => s.heap.size ≤ q) s.heap H locs → lv_has ls 4 [(0, .ref b), (1, .ref (gx 0)), (2, .ref (gm 0)), (3, .int 0)] → LG p l e s m b below meth c H locs (F0 m 2148 ls []))) : LG p l e s m b below meth c H locs (F0 m 1443 ls []) := by
  obtain ⟨hx, hb, hr, hml, hown, hts, hX, hbl, hlocks, hgv⟩ := C0
  have hT : ∀ w ∈ TB, w.before #[Value.ref b] s = true := fun w h => hts w (TB_lw h)
  have hown : s.vm.findClass RL = some m.cls := hown
  have hA : ∀ q : Nat, s.heap.size ≤ q → (fun q : Nat => s.heap.size ≤ q) q := fun _ h => h
  have hbA : ¬ (fun q : Nat => s.heap.size ≤ q) b := Nat.not_le.mpr hbl
  refine lv_aload_n hx hb dL_law_1443 rfl (lv_at hl 1 rfl) ?_
  refine lv_aload_n hx hb dL_law_1444 rfl (lv_at hl 0 rfl) ?_
  refine lv_iload_n hx hb dL_law_1445 rfl (lv_at hl 3 rfl) ?_
  refine lv_iconst (v := 1) hx hb dL_law_1446 (by decide) ?_
  refine lv_iadd hx hb dL_law_1447 ?_
  refine t_i 1 (by decide) ?_
  refine va_sld hx hb hX hbl hbA hS (by unfold vp_in; decide) dL_law_1448 ?_
  refine c_Vi (C := RX8) (As := [.int (xs (1 : Int32).toNatClampNeg)]) (rest := []) (wr := (wM gm am)) (n := 1) ⟨hx, hb, hml, hown, hT⟩ (k_X8_ask l dC dI gx ax (xs (1 : Int32).toNatClampNeg)) hK hP hD hS hA [12] rfl [0, 66, 16, 17] [74, 75, 76, 77, 78, 79, 80, 81, 82, 83, 84, 85, 86, 87] rfl rfl rfl rfl (by decide) rfl rfl mw_826 mw_827 mw_828 mw_69 mw_829 (by decide +kernel) ⟨Nat.le_of_ble_eq_true rfl, Nat.le_of_ble_eq_true rfl⟩ ⟨rfl, rfl⟩ rfl hl.1 (Nat.le_of_ble_eq_true rfl) rfl dL_law_1449 ⟨Nat.le_of_ble_eq_true rfl, Nat.le_of_ble_eq_true rfl⟩ (fun r1 f1 H locs er1 hP hD hS => ?_)
  have er1 : r1 = (-2) := er1
  have hP : va_P (dC, dI) vwCl (wM gm am) H := hP
  have hD : va_D (fun q : Nat => s.heap.size ≤ q) (wM gm am) := hD
  refine lv_aload_n hx hb dL_law_1452 rfl (lv_at hl 2 rfl) ?_
  refine lv_aload_n hx hb dL_law_1453 rfl (lv_at hl 0 rfl) ?_
  refine lv_iload_n hx hb dL_law_1454 rfl (lv_at hl 3 rfl) ?_
  refine lv_iconst (v := 1) hx hb dL_law_1455 (by decide) ?_
  refine lv_iadd hx hb dL_law_1456 ?_
  refine t_i 1 (by decide) ?_
  refine va_sld hx hb hX hbl hbA hS (by unfold vp_in; decide) dL_law_1457 ?_
  refine c_Vi (C := RX9) (As := [.int (xs (1 : Int32).toNatClampNeg)]) (rest := [.int r1]) (wr := []) (n := 1) ⟨hx, hb, hml, hown, hT⟩ (k_X9_ask l dC dI gm am (xs (1 : Int32).toNatClampNeg)) hK hP hD hS hA [63] rfl [0, 1] [] rfl rfl rfl rfl (by decide) rfl rfl mw_830 mw_831 mw_832 mw_19 mw_833 (by decide +kernel) ⟨Nat.le_of_ble_eq_true rfl, Nat.le_of_ble_eq_true rfl⟩ ⟨rfl, rfl⟩ rfl hl.1 (Nat.le_of_ble_eq_true rfl) rfl dL_law_1458 ⟨Nat.le_of_ble_eq_true rfl, Nat.le_of_ble_eq_true rfl⟩ (fun r2 f2 H locs er2 hP hD hS => ?_)
  have er2 : r2 = (-2) := er2
  exact lv_icmp_eq (tgt := 2148) hx hb dL_law_1461 (by decide) (fun _ => hend _ _ _ hS hl) (fun c9 => absurd (er1.trans er2.symm) c9)
set_option maxRecDepth 100000 in
set_option maxHeartbeats 4000000 in
theorem lc_54 {p : Program} {l : Launch} {e : Env} {s : State} {m : MethodId} {below : List Frame} {meth : Method} {c : Code} {dC : Nat → ClassId} {dI : Nat → Nat → Nat} {b : Nat} {xs : Nat → Int32} {H : Heap} {locs : List Loc} {ls : Array Slot} (gx : Nat → Nat) (ax : Nat → ClassId) (gm : Nat → Nat) (am : Nat → ClassId) (C0 : lw_At p s m meth c b 6 xs) (hK : va_K (dC, dI) vwCl (tX ax ++ tM am) s) (hP : va_P (dC, dI) vwCl (wX gx ax ++ wM gm am) H) (hD : va_D (fun q : Nat => s.heap.size ≤ q) (wX gx ax ++ wM gm am)) (hS : va_S (fun q : Nat => s.heap.size ≤ q) s.heap H locs) (hl : lv_has ls 4 [(0, .ref b), (1, .ref (gx 0)), (2, .ref (gm 0)), (3, .int 0)]) (hend : (∀ (H : Heap) (locs : List Loc) (ls : Array Slot), va_S (fun q : Nat => s.heap.size ≤ q) s.heap H locs → lv_has ls 4 [(0, .ref b), (1, .ref (gx 0)), (2, .ref (gm 0)), (3, .int 0)] → LG p l e s m b below meth c H locs (F0 m 2148 ls []))) : LG p l e s m b below meth c H locs (F0 m 1466 ls []) := by
  obtain ⟨hx, hb, hr, hml, hown, hts, hX, hbl, hlocks, hgv⟩ := C0
  have hT : ∀ w ∈ TB, w.before #[Value.ref b] s = true := fun w h => hts w (TB_lw h)
  have hown : s.vm.findClass RL = some m.cls := hown
  have hA : ∀ q : Nat, s.heap.size ≤ q → (fun q : Nat => s.heap.size ≤ q) q := fun _ h => h
  have hbA : ¬ (fun q : Nat => s.heap.size ≤ q) b := Nat.not_le.mpr hbl
  refine lv_aload_n hx hb dL_law_1466 rfl (lv_at hl 1 rfl) ?_
  refine lv_aload_n hx hb dL_law_1467 rfl (lv_at hl 0 rfl) ?_
  refine lv_iload_n hx hb dL_law_1468 rfl (lv_at hl 3 rfl) ?_
  refine lv_iconst (v := 1) hx hb dL_law_1469 (by decide) ?_
  refine lv_iadd hx hb dL_law_1470 ?_
  refine t_i 1 (by decide) ?_
  refine va_sld hx hb hX hbl hbA hS (by unfold vp_in; decide) dL_law_1471 ?_
  refine c_Vi (C := RX8) (As := [.int (xs (1 : Int32).toNatClampNeg)]) (rest := []) (wr := (wM gm am)) (n := 1) ⟨hx, hb, hml, hown, hT⟩ (k_X8_leaves l dC dI gx ax (xs (1 : Int32).toNatClampNeg)) hK hP hD hS hA [12] rfl [0, 66, 16, 17] [74, 75, 76, 77, 78, 79, 80, 81, 82, 83, 84, 85, 86, 87] rfl rfl rfl rfl (by decide) rfl rfl mw_834 mw_835 mw_836 mw_69 mw_837 (by decide +kernel) ⟨Nat.le_of_ble_eq_true rfl, Nat.le_of_ble_eq_true rfl⟩ ⟨rfl, rfl⟩ rfl hl.1 (Nat.le_of_ble_eq_true rfl) rfl dL_law_1472 ⟨Nat.le_of_ble_eq_true rfl, Nat.le_of_ble_eq_true rfl⟩ (fun r1 f1 H locs er1 hP hD hS => ?_)
  have er1 : r1 = (-2) := er1
  have hP : va_P (dC, dI) vwCl (wM gm am) H := hP
  have hD : va_D (fun q : Nat => s.heap.size ≤ q) (wM gm am) := hD
  refine lv_aload_n hx hb dL_law_1475 rfl (lv_at hl 2 rfl) ?_
  refine lv_aload_n hx hb dL_law_1476 rfl (lv_at hl 0 rfl) ?_
  refine lv_iload_n hx hb dL_law_1477 rfl (lv_at hl 3 rfl) ?_
  refine lv_iconst (v := 1) hx hb dL_law_1478 (by decide) ?_
  refine lv_iadd hx hb dL_law_1479 ?_
  refine t_i 1 (by decide) ?_
  refine va_sld hx hb hX hbl hbA hS (by unfold vp_in; decide) dL_law_1480 ?_
  refine c_Vi (C := RX9) (As := [.int (xs (1 : Int32).toNatClampNeg)]) (rest := [.int r1]) (wr := []) (n := 1) ⟨hx, hb, hml, hown, hT⟩ (k_X9_leaves l dC dI gm am (xs (1 : Int32).toNatClampNeg)) hK hP hD hS hA [63] rfl [0, 1] [] rfl rfl rfl rfl (by decide) rfl rfl mw_838 mw_839 mw_840 mw_19 mw_841 (by decide +kernel) ⟨Nat.le_of_ble_eq_true rfl, Nat.le_of_ble_eq_true rfl⟩ ⟨rfl, rfl⟩ rfl hl.1 (Nat.le_of_ble_eq_true rfl) rfl dL_law_1481 ⟨Nat.le_of_ble_eq_true rfl, Nat.le_of_ble_eq_true rfl⟩ (fun r2 f2 H locs er2 hP hD hS => ?_)
  have er2 : r2 = (-2) := er2
  exact lv_icmp_eq (tgt := 2148) hx hb dL_law_1484 (by decide) (fun _ => hend _ _ _ hS hl) (fun c9 => absurd (er1.trans er2.symm) c9)
set_option maxRecDepth 100000 in
set_option maxHeartbeats 4000000 in
theorem lc_55 {p : Program} {l : Launch} {e : Env} {s : State} {m : MethodId} {below : List Frame} {meth : Method} {c : Code} {dC : Nat → ClassId} {dI : Nat → Nat → Nat} {b : Nat} {xs : Nat → Int32} {H : Heap} {locs : List Loc} {ls : Array Slot} (gx : Nat → Nat) (ax : Nat → ClassId) (gm : Nat → Nat) (am : Nat → ClassId) (C0 : lw_At p s m meth c b 6 xs) (hK : va_K (dC, dI) vwCl (tX ax ++ tM am) s) (hP : va_P (dC, dI) vwCl (wX gx ax ++ wM gm am) H) (hD : va_D (fun q : Nat => s.heap.size ≤ q) (wX gx ax ++ wM gm am)) (hS : va_S (fun q : Nat => s.heap.size ≤ q) s.heap H locs) (hl : lv_has ls 4 [(0, .ref b), (1, .ref (gx 0)), (2, .ref (gm 0)), (3, .int 0)]) (hend : (∀ (H : Heap) (locs : List Loc) (ls : Array Slot), va_S (fun q : Nat => s.heap.size ≤ q) s.heap H locs → lv_has ls 4 [(0, .ref b), (1, .ref (gx 0)), (2, .ref (gm 0)), (3, .int 0)] → LG p l e s m b below meth c H locs (F0 m 2148 ls []))) : LG p l e s m b below meth c H locs (F0 m 1489 ls []) := by
  obtain ⟨hx, hb, hr, hml, hown, hts, hX, hbl, hlocks, hgv⟩ := C0
  have hT : ∀ w ∈ TB, w.before #[Value.ref b] s = true := fun w h => hts w (TB_lw h)
  have hown : s.vm.findClass RL = some m.cls := hown
  have hA : ∀ q : Nat, s.heap.size ≤ q → (fun q : Nat => s.heap.size ≤ q) q := fun _ h => h
  have hbA : ¬ (fun q : Nat => s.heap.size ≤ q) b := Nat.not_le.mpr hbl
  refine lv_aload_n hx hb dL_law_1489 rfl (lv_at hl 1 rfl) ?_
  refine lv_aload_n hx hb dL_law_1490 rfl (lv_at hl 0 rfl) ?_
  refine lv_iload_n hx hb dL_law_1491 rfl (lv_at hl 3 rfl) ?_
  refine lv_iconst (v := 1) hx hb dL_law_1492 (by decide) ?_
  refine lv_iadd hx hb dL_law_1493 ?_
  refine t_i 1 (by decide) ?_
  refine va_sld hx hb hX hbl hbA hS (by unfold vp_in; decide) dL_law_1494 ?_
  refine c_Vi (C := RX8) (As := [.int (xs (1 : Int32).toNatClampNeg)]) (rest := []) (wr := (wM gm am)) (n := 1) ⟨hx, hb, hml, hown, hT⟩ (k_X8_brings l dC dI gx ax (xs (1 : Int32).toNatClampNeg)) hK hP hD hS hA [12] rfl [0, 16, 17] [74, 75, 76, 77, 78, 79, 80, 81, 82, 83, 84, 85, 86, 87] rfl rfl rfl rfl (by decide) rfl rfl mw_842 mw_843 mw_844 mw_69 mw_845 (by decide +kernel) ⟨Nat.le_of_ble_eq_true rfl, Nat.le_of_ble_eq_true rfl⟩ ⟨rfl, rfl⟩ rfl hl.1 (Nat.le_of_ble_eq_true rfl) rfl dL_law_1495 ⟨Nat.le_of_ble_eq_true rfl, Nat.le_of_ble_eq_true rfl⟩ (fun r1 f1 H locs er1 hP hD hS => ?_)
  have er1 : r1 = (-2) := er1
  have hP : va_P (dC, dI) vwCl (wM gm am) H := hP
  have hD : va_D (fun q : Nat => s.heap.size ≤ q) (wM gm am) := hD
  refine lv_aload_n hx hb dL_law_1498 rfl (lv_at hl 2 rfl) ?_
  refine lv_aload_n hx hb dL_law_1499 rfl (lv_at hl 0 rfl) ?_
  refine lv_iload_n hx hb dL_law_1500 rfl (lv_at hl 3 rfl) ?_
  refine lv_iconst (v := 1) hx hb dL_law_1501 (by decide) ?_
  refine lv_iadd hx hb dL_law_1502 ?_
  refine t_i 1 (by decide) ?_
  refine va_sld hx hb hX hbl hbA hS (by unfold vp_in; decide) dL_law_1503 ?_
  refine c_Vi (C := RX9) (As := [.int (xs (1 : Int32).toNatClampNeg)]) (rest := [.int r1]) (wr := []) (n := 1) ⟨hx, hb, hml, hown, hT⟩ (k_X9_brings l dC dI gm am (xs (1 : Int32).toNatClampNeg)) hK hP hD hS hA [63] rfl [0, 1] [] rfl rfl rfl rfl (by decide) rfl rfl mw_846 mw_847 mw_848 mw_19 mw_849 (by decide +kernel) ⟨Nat.le_of_ble_eq_true rfl, Nat.le_of_ble_eq_true rfl⟩ ⟨rfl, rfl⟩ rfl hl.1 (Nat.le_of_ble_eq_true rfl) rfl dL_law_1504 ⟨Nat.le_of_ble_eq_true rfl, Nat.le_of_ble_eq_true rfl⟩ (fun r2 f2 H locs er2 hP hD hS => ?_)
  have er2 : r2 = (-2) := er2
  exact lv_icmp_eq (tgt := 2148) hx hb dL_law_1507 (by decide) (fun _ => hend _ _ _ hS hl) (fun c9 => absurd (er1.trans er2.symm) c9)
set_option maxRecDepth 100000 in
set_option maxHeartbeats 4000000 in
theorem lc_56 {p : Program} {l : Launch} {e : Env} {s : State} {m : MethodId} {below : List Frame} {meth : Method} {c : Code} {dC : Nat → ClassId} {dI : Nat → Nat → Nat} {b : Nat} {xs : Nat → Int32} {H : Heap} {locs : List Loc} {ls : Array Slot} (gx : Nat → Nat) (ax : Nat → ClassId) (gm : Nat → Nat) (am : Nat → ClassId) (C0 : lw_At p s m meth c b 6 xs) (hK : va_K (dC, dI) vwCl (tX ax ++ tM am) s) (hP : va_P (dC, dI) vwCl (wX gx ax ++ wM gm am) H) (hD : va_D (fun q : Nat => s.heap.size ≤ q) (wX gx ax ++ wM gm am)) (hS : va_S (fun q : Nat => s.heap.size ≤ q) s.heap H locs) (hl : lv_has ls 4 [(0, .ref b), (1, .ref (gx 0)), (2, .ref (gm 0)), (3, .int 0)]) (hend : (∀ (H : Heap) (locs : List Loc) (ls : Array Slot), va_S (fun q : Nat => s.heap.size ≤ q) s.heap H locs → lv_has ls 4 [(0, .ref b), (1, .ref (gx 0)), (2, .ref (gm 0)), (3, .int 0)] → LG p l e s m b below meth c H locs (F0 m 2148 ls []))) : LG p l e s m b below meth c H locs (F0 m 1512 ls []) := by
  obtain ⟨hx, hb, hr, hml, hown, hts, hX, hbl, hlocks, hgv⟩ := C0
  have hT : ∀ w ∈ TB, w.before #[Value.ref b] s = true := fun w h => hts w (TB_lw h)
  have hown : s.vm.findClass RL = some m.cls := hown
  have hA : ∀ q : Nat, s.heap.size ≤ q → (fun q : Nat => s.heap.size ≤ q) q := fun _ h => h
  have hbA : ¬ (fun q : Nat => s.heap.size ≤ q) b := Nat.not_le.mpr hbl
  refine lv_aload_n hx hb dL_law_1512 rfl (lv_at hl 1 rfl) ?_
  refine lv_aload_n hx hb dL_law_1513 rfl (lv_at hl 0 rfl) ?_
  refine lv_iload_n hx hb dL_law_1514 rfl (lv_at hl 3 rfl) ?_
  refine lv_iconst (v := 1) hx hb dL_law_1515 (by decide) ?_
  refine lv_iadd hx hb dL_law_1516 ?_
  refine t_i 1 (by decide) ?_
  refine va_sld hx hb hX hbl hbA hS (by unfold vp_in; decide) dL_law_1517 ?_
  refine lv_aload_n hx hb dL_law_1518 rfl (lv_at hl 0 rfl) ?_
  refine lv_iload_n hx hb dL_law_1519 rfl (lv_at hl 3 rfl) ?_
  refine lv_iconst (v := 2) hx hb dL_law_1520 (by decide) ?_
  refine lv_iadd hx hb dL_law_1521 ?_
  refine t_i 2 (by decide) ?_
  refine va_sld hx hb hX hbl hbA hS (by unfold vp_in; decide) dL_law_1522 ?_
  refine c_Vi (C := RX8) (As := [.int (xs (1 : Int32).toNatClampNeg), .int (xs (2 : Int32).toNatClampNeg)]) (rest := []) (wr := (wM gm am)) (n := 2) ⟨hx, hb, hml, hown, hT⟩ (k_X8_share l dC dI gx ax (xs (1 : Int32).toNatClampNeg) (xs (2 : Int32).toNatClampNeg)) hK hP hD hS hA [12] rfl [0, 16, 17] [74, 75, 76, 77, 78, 79, 80, 81, 82, 83, 84, 85, 86, 87] rfl rfl rfl rfl (by decide) rfl rfl mw_850 mw_851 mw_852 mw_69 mw_853 (by decide +kernel) ⟨Nat.le_of_ble_eq_true rfl, Nat.le_of_ble_eq_true rfl⟩ ⟨rfl, rfl⟩ rfl hl.1 (Nat.le_of_ble_eq_true rfl) rfl dL_law_1523 ⟨Nat.le_of_ble_eq_true rfl, Nat.le_of_ble_eq_true rfl⟩ (fun r1 f1 H locs er1 hP hD hS => ?_)
  have er1 : r1 = (-2) := er1
  have hP : va_P (dC, dI) vwCl (wM gm am) H := hP
  have hD : va_D (fun q : Nat => s.heap.size ≤ q) (wM gm am) := hD
  refine lv_aload_n hx hb dL_law_1526 rfl (lv_at hl 2 rfl) ?_
  refine lv_aload_n hx hb dL_law_1527 rfl (lv_at hl 0 rfl) ?_
  refine lv_iload_n hx hb dL_law_1528 rfl (lv_at hl 3 rfl) ?_
  refine lv_iconst (v := 1) hx hb dL_law_1529 (by decide) ?_
  refine lv_iadd hx hb dL_law_1530 ?_
  refine t_i 1 (by decide) ?_
  refine va_sld hx hb hX hbl hbA hS (by unfold vp_in; decide) dL_law_1531 ?_
  refine lv_aload_n hx hb dL_law_1532 rfl (lv_at hl 0 rfl) ?_
  refine lv_iload_n hx hb dL_law_1533 rfl (lv_at hl 3 rfl) ?_
  refine lv_iconst (v := 2) hx hb dL_law_1534 (by decide) ?_
  refine lv_iadd hx hb dL_law_1535 ?_
  refine t_i 2 (by decide) ?_
  refine va_sld hx hb hX hbl hbA hS (by unfold vp_in; decide) dL_law_1536 ?_
  refine c_Vi (C := RX9) (As := [.int (xs (1 : Int32).toNatClampNeg), .int (xs (2 : Int32).toNatClampNeg)]) (rest := [.int r1]) (wr := []) (n := 2) ⟨hx, hb, hml, hown, hT⟩ (k_X9_share l dC dI gm am (xs (1 : Int32).toNatClampNeg) (xs (2 : Int32).toNatClampNeg)) hK hP hD hS hA [63] rfl [0, 1] [] rfl rfl rfl rfl (by decide) rfl rfl mw_854 mw_855 mw_856 mw_19 mw_857 (by decide +kernel) ⟨Nat.le_of_ble_eq_true rfl, Nat.le_of_ble_eq_true rfl⟩ ⟨rfl, rfl⟩ rfl hl.1 (Nat.le_of_ble_eq_true rfl) rfl dL_law_1537 ⟨Nat.le_of_ble_eq_true rfl, Nat.le_of_ble_eq_true rfl⟩ (fun r2 f2 H locs er2 hP hD hS => ?_)
  have er2 : r2 = (-2) := er2
  exact lv_icmp_eq (tgt := 2148) hx hb dL_law_1540 (by decide) (fun _ => hend _ _ _ hS hl) (fun c9 => absurd (er1.trans er2.symm) c9)
set_option maxRecDepth 100000 in
set_option maxHeartbeats 4000000 in
theorem lc_57 {p : Program} {l : Launch} {e : Env} {s : State} {m : MethodId} {below : List Frame} {meth : Method} {c : Code} {dC : Nat → ClassId} {dI : Nat → Nat → Nat} {b : Nat} {xs : Nat → Int32} {H : Heap} {locs : List Loc} {ls : Array Slot} (gx : Nat → Nat) (ax : Nat → ClassId) (gm : Nat → Nat) (am : Nat → ClassId) (C0 : lw_At p s m meth c b 6 xs) (hK : va_K (dC, dI) vwCl (tX ax ++ tM am) s) (hP : va_P (dC, dI) vwCl (wX gx ax ++ wM gm am) H) (hD : va_D (fun q : Nat => s.heap.size ≤ q) (wX gx ax ++ wM gm am)) (hS : va_S (fun q : Nat => s.heap.size ≤ q) s.heap H locs) (hl : lv_has ls 4 [(0, .ref b), (1, .ref (gx 0)), (2, .ref (gm 0)), (3, .int 0)]) (hend : (∀ (H : Heap) (locs : List Loc) (ls : Array Slot), va_S (fun q : Nat => s.heap.size ≤ q) s.heap H locs → lv_has ls 4 [(0, .ref b), (1, .ref (gx 0)), (2, .ref (gm 0)), (3, .int 0)] → LG p l e s m b below meth c H locs (F0 m 2148 ls []))) : LG p l e s m b below meth c H locs (F0 m 1545 ls []) := by
  obtain ⟨hx, hb, hr, hml, hown, hts, hX, hbl, hlocks, hgv⟩ := C0
  have hT : ∀ w ∈ TB, w.before #[Value.ref b] s = true := fun w h => hts w (TB_lw h)
  have hown : s.vm.findClass RL = some m.cls := hown
  have hA : ∀ q : Nat, s.heap.size ≤ q → (fun q : Nat => s.heap.size ≤ q) q := fun _ h => h
  have hbA : ¬ (fun q : Nat => s.heap.size ≤ q) b := Nat.not_le.mpr hbl
  refine lv_aload_n hx hb dL_law_1545 rfl (lv_at hl 1 rfl) ?_
  refine lv_aload_n hx hb dL_law_1546 rfl (lv_at hl 0 rfl) ?_
  refine lv_iload_n hx hb dL_law_1547 rfl (lv_at hl 3 rfl) ?_
  refine lv_iconst (v := 1) hx hb dL_law_1548 (by decide) ?_
  refine lv_iadd hx hb dL_law_1549 ?_
  refine t_i 1 (by decide) ?_
  refine va_sld hx hb hX hbl hbA hS (by unfold vp_in; decide) dL_law_1550 ?_
  refine lv_aload_n hx hb dL_law_1551 rfl (lv_at hl 0 rfl) ?_
  refine lv_iload_n hx hb dL_law_1552 rfl (lv_at hl 3 rfl) ?_
  refine lv_iconst (v := 2) hx hb dL_law_1553 (by decide) ?_
  refine lv_iadd hx hb dL_law_1554 ?_
  refine t_i 2 (by decide) ?_
  refine va_sld hx hb hX hbl hbA hS (by unfold vp_in; decide) dL_law_1555 ?_
  refine c_Vi (C := RX8) (As := [.int (xs (1 : Int32).toNatClampNeg), .int (xs (2 : Int32).toNatClampNeg)]) (rest := []) (wr := (wM gm am)) (n := 2) ⟨hx, hb, hml, hown, hT⟩ (k_X8_rests l dC dI gx ax (xs (1 : Int32).toNatClampNeg) (xs (2 : Int32).toNatClampNeg)) hK hP hD hS hA [12] rfl [0, 16, 17] [74, 75, 76, 77, 78, 79, 80, 81, 82, 83, 84, 85, 86, 87] rfl rfl rfl rfl (by decide) rfl rfl mw_858 mw_859 mw_860 mw_69 mw_861 (by decide +kernel) ⟨Nat.le_of_ble_eq_true rfl, Nat.le_of_ble_eq_true rfl⟩ ⟨rfl, rfl⟩ rfl hl.1 (Nat.le_of_ble_eq_true rfl) rfl dL_law_1556 ⟨Nat.le_of_ble_eq_true rfl, Nat.le_of_ble_eq_true rfl⟩ (fun r1 f1 H locs er1 hP hD hS => ?_)
  have er1 : r1 = (-2) := er1
  have hP : va_P (dC, dI) vwCl (wM gm am) H := hP
  have hD : va_D (fun q : Nat => s.heap.size ≤ q) (wM gm am) := hD
  refine lv_aload_n hx hb dL_law_1559 rfl (lv_at hl 2 rfl) ?_
  refine lv_aload_n hx hb dL_law_1560 rfl (lv_at hl 0 rfl) ?_
  refine lv_iload_n hx hb dL_law_1561 rfl (lv_at hl 3 rfl) ?_
  refine lv_iconst (v := 1) hx hb dL_law_1562 (by decide) ?_
  refine lv_iadd hx hb dL_law_1563 ?_
  refine t_i 1 (by decide) ?_
  refine va_sld hx hb hX hbl hbA hS (by unfold vp_in; decide) dL_law_1564 ?_
  refine lv_aload_n hx hb dL_law_1565 rfl (lv_at hl 0 rfl) ?_
  refine lv_iload_n hx hb dL_law_1566 rfl (lv_at hl 3 rfl) ?_
  refine lv_iconst (v := 2) hx hb dL_law_1567 (by decide) ?_
  refine lv_iadd hx hb dL_law_1568 ?_
  refine t_i 2 (by decide) ?_
  refine va_sld hx hb hX hbl hbA hS (by unfold vp_in; decide) dL_law_1569 ?_
  refine c_Vi (C := RX9) (As := [.int (xs (1 : Int32).toNatClampNeg), .int (xs (2 : Int32).toNatClampNeg)]) (rest := [.int r1]) (wr := []) (n := 2) ⟨hx, hb, hml, hown, hT⟩ (k_X9_rests l dC dI gm am (xs (1 : Int32).toNatClampNeg) (xs (2 : Int32).toNatClampNeg)) hK hP hD hS hA [63] rfl [0, 1] [] rfl rfl rfl rfl (by decide) rfl rfl mw_862 mw_863 mw_864 mw_19 mw_865 (by decide +kernel) ⟨Nat.le_of_ble_eq_true rfl, Nat.le_of_ble_eq_true rfl⟩ ⟨rfl, rfl⟩ rfl hl.1 (Nat.le_of_ble_eq_true rfl) rfl dL_law_1570 ⟨Nat.le_of_ble_eq_true rfl, Nat.le_of_ble_eq_true rfl⟩ (fun r2 f2 H locs er2 hP hD hS => ?_)
  have er2 : r2 = (-2) := er2
  exact lv_icmp_eq (tgt := 2148) hx hb dL_law_1573 (by decide) (fun _ => hend _ _ _ hS hl) (fun c9 => absurd (er1.trans er2.symm) c9)
set_option maxRecDepth 100000 in
set_option maxHeartbeats 4000000 in
theorem lc_58 {p : Program} {l : Launch} {e : Env} {s : State} {m : MethodId} {below : List Frame} {meth : Method} {c : Code} {dC : Nat → ClassId} {dI : Nat → Nat → Nat} {b : Nat} {xs : Nat → Int32} {H : Heap} {locs : List Loc} {ls : Array Slot} (gx : Nat → Nat) (ax : Nat → ClassId) (gm : Nat → Nat) (am : Nat → ClassId) (C0 : lw_At p s m meth c b 6 xs) (hK : va_K (dC, dI) vwCl (tX ax ++ tM am) s) (hP : va_P (dC, dI) vwCl (wX gx ax ++ wM gm am) H) (hD : va_D (fun q : Nat => s.heap.size ≤ q) (wX gx ax ++ wM gm am)) (hS : va_S (fun q : Nat => s.heap.size ≤ q) s.heap H locs) (hl : lv_has ls 4 [(0, .ref b), (1, .ref (gx 0)), (2, .ref (gm 0)), (3, .int 0)]) (hend : (∀ (H : Heap) (locs : List Loc) (ls : Array Slot), va_S (fun q : Nat => s.heap.size ≤ q) s.heap H locs → lv_has ls 4 [(0, .ref b), (1, .ref (gx 0)), (2, .ref (gm 0)), (3, .int 0)] → LG p l e s m b below meth c H locs (F0 m 2148 ls []))) : LG p l e s m b below meth c H locs (F0 m 1578 ls []) := by
  obtain ⟨hx, hb, hr, hml, hown, hts, hX, hbl, hlocks, hgv⟩ := C0
  have hT : ∀ w ∈ TB, w.before #[Value.ref b] s = true := fun w h => hts w (TB_lw h)
  have hown : s.vm.findClass RL = some m.cls := hown
  have hA : ∀ q : Nat, s.heap.size ≤ q → (fun q : Nat => s.heap.size ≤ q) q := fun _ h => h
  have hbA : ¬ (fun q : Nat => s.heap.size ≤ q) b := Nat.not_le.mpr hbl
  refine lv_aload_n hx hb dL_law_1578 rfl (lv_at hl 1 rfl) ?_
  refine lv_aload_n hx hb dL_law_1579 rfl (lv_at hl 0 rfl) ?_
  refine lv_iload_n hx hb dL_law_1580 rfl (lv_at hl 3 rfl) ?_
  refine lv_iconst (v := 1) hx hb dL_law_1581 (by decide) ?_
  refine lv_iadd hx hb dL_law_1582 ?_
  refine t_i 1 (by decide) ?_
  refine va_sld hx hb hX hbl hbA hS (by unfold vp_in; decide) dL_law_1583 ?_
  refine lv_aload_n hx hb dL_law_1584 rfl (lv_at hl 0 rfl) ?_
  refine lv_iload_n hx hb dL_law_1585 rfl (lv_at hl 3 rfl) ?_
  refine lv_iconst (v := 2) hx hb dL_law_1586 (by decide) ?_
  refine lv_iadd hx hb dL_law_1587 ?_
  refine t_i 2 (by decide) ?_
  refine va_sld hx hb hX hbl hbA hS (by unfold vp_in; decide) dL_law_1588 ?_
  refine lv_aload_n hx hb dL_law_1589 rfl (lv_at hl 0 rfl) ?_
  refine lv_iload_n hx hb dL_law_1590 rfl (lv_at hl 3 rfl) ?_
  refine lv_iconst (v := 3) hx hb dL_law_1591 (by decide) ?_
  refine lv_iadd hx hb dL_law_1592 ?_
  refine t_i 3 (by decide) ?_
  refine va_sld hx hb hX hbl hbA hS (by unfold vp_in; decide) dL_law_1593 ?_
  refine lv_aload_n hx hb dL_law_1594 rfl (lv_at hl 0 rfl) ?_
  refine lv_iload_n hx hb dL_law_1595 rfl (lv_at hl 3 rfl) ?_
  refine lv_iconst (v := 4) hx hb dL_law_1596 (by decide) ?_
  refine lv_iadd hx hb dL_law_1597 ?_
  refine t_i 4 (by decide) ?_
  refine va_sld hx hb hX hbl hbA hS (by unfold vp_in; decide) dL_law_1598 ?_
  refine c_Vi (C := RX8) (As := [.int (xs (1 : Int32).toNatClampNeg), .int (xs (2 : Int32).toNatClampNeg), .int (xs (3 : Int32).toNatClampNeg), .int (xs (4 : Int32).toNatClampNeg)]) (rest := []) (wr := (wM gm am)) (n := 4) ⟨hx, hb, hml, hown, hT⟩ (k_X8_gets l dC dI gx ax (xs (1 : Int32).toNatClampNeg) (xs (2 : Int32).toNatClampNeg) (xs (3 : Int32).toNatClampNeg) (xs (4 : Int32).toNatClampNeg)) hK hP hD hS hA [12] rfl [0, 16, 17] [74, 75, 76, 77, 78, 79, 80, 81, 82, 83, 84, 85, 86, 87] rfl rfl rfl rfl (by decide) rfl rfl mw_866 mw_867 mw_868 mw_69 mw_869 (by decide +kernel) ⟨Nat.le_of_ble_eq_true rfl, Nat.le_of_ble_eq_true rfl⟩ ⟨rfl, rfl⟩ rfl hl.1 (Nat.le_of_ble_eq_true rfl) rfl dL_law_1599 ⟨Nat.le_of_ble_eq_true rfl, Nat.le_of_ble_eq_true rfl⟩ (fun r1 f1 H locs er1 hP hD hS => ?_)
  have er1 : r1 = (-1000) := er1
  have hP : va_P (dC, dI) vwCl (wM gm am) H := hP
  have hD : va_D (fun q : Nat => s.heap.size ≤ q) (wM gm am) := hD
  refine lv_aload_n hx hb dL_law_1602 rfl (lv_at hl 2 rfl) ?_
  refine lv_aload_n hx hb dL_law_1603 rfl (lv_at hl 0 rfl) ?_
  refine lv_iload_n hx hb dL_law_1604 rfl (lv_at hl 3 rfl) ?_
  refine lv_iconst (v := 1) hx hb dL_law_1605 (by decide) ?_
  refine lv_iadd hx hb dL_law_1606 ?_
  refine t_i 1 (by decide) ?_
  refine va_sld hx hb hX hbl hbA hS (by unfold vp_in; decide) dL_law_1607 ?_
  refine lv_aload_n hx hb dL_law_1608 rfl (lv_at hl 0 rfl) ?_
  refine lv_iload_n hx hb dL_law_1609 rfl (lv_at hl 3 rfl) ?_
  refine lv_iconst (v := 2) hx hb dL_law_1610 (by decide) ?_
  refine lv_iadd hx hb dL_law_1611 ?_
  refine t_i 2 (by decide) ?_
  refine va_sld hx hb hX hbl hbA hS (by unfold vp_in; decide) dL_law_1612 ?_
  refine lv_aload_n hx hb dL_law_1613 rfl (lv_at hl 0 rfl) ?_
  refine lv_iload_n hx hb dL_law_1614 rfl (lv_at hl 3 rfl) ?_
  refine lv_iconst (v := 3) hx hb dL_law_1615 (by decide) ?_
  refine lv_iadd hx hb dL_law_1616 ?_
  refine t_i 3 (by decide) ?_
  refine va_sld hx hb hX hbl hbA hS (by unfold vp_in; decide) dL_law_1617 ?_
  refine lv_aload_n hx hb dL_law_1618 rfl (lv_at hl 0 rfl) ?_
  refine lv_iload_n hx hb dL_law_1619 rfl (lv_at hl 3 rfl) ?_
  refine lv_iconst (v := 4) hx hb dL_law_1620 (by decide) ?_
  refine lv_iadd hx hb dL_law_1621 ?_
  refine t_i 4 (by decide) ?_
  refine va_sld hx hb hX hbl hbA hS (by unfold vp_in; decide) dL_law_1622 ?_
  refine c_Vi (C := RX9) (As := [.int (xs (1 : Int32).toNatClampNeg), .int (xs (2 : Int32).toNatClampNeg), .int (xs (3 : Int32).toNatClampNeg), .int (xs (4 : Int32).toNatClampNeg)]) (rest := [.int r1]) (wr := []) (n := 4) ⟨hx, hb, hml, hown, hT⟩ (k_X9_gets l dC dI gm am (xs (1 : Int32).toNatClampNeg) (xs (2 : Int32).toNatClampNeg) (xs (3 : Int32).toNatClampNeg) (xs (4 : Int32).toNatClampNeg)) hK hP hD hS hA [63] rfl [0, 1] [] rfl rfl rfl rfl (by decide) rfl rfl mw_870 mw_871 mw_872 mw_19 mw_873 (by decide +kernel) ⟨Nat.le_of_ble_eq_true rfl, Nat.le_of_ble_eq_true rfl⟩ ⟨rfl, rfl⟩ rfl hl.1 (Nat.le_of_ble_eq_true rfl) rfl dL_law_1623 ⟨Nat.le_of_ble_eq_true rfl, Nat.le_of_ble_eq_true rfl⟩ (fun r2 f2 H locs er2 hP hD hS => ?_)
  have er2 : r2 = (-1000) := er2
  exact lv_icmp_eq (tgt := 2148) hx hb dL_law_1626 (by decide) (fun _ => hend _ _ _ hS hl) (fun c9 => absurd (er1.trans er2.symm) c9)
set_option maxRecDepth 100000 in
set_option maxHeartbeats 4000000 in
theorem lc_59 {p : Program} {l : Launch} {e : Env} {s : State} {m : MethodId} {below : List Frame} {meth : Method} {c : Code} {dC : Nat → ClassId} {dI : Nat → Nat → Nat} {b : Nat} {xs : Nat → Int32} {H : Heap} {locs : List Loc} {ls : Array Slot} (gx : Nat → Nat) (ax : Nat → ClassId) (gm : Nat → Nat) (am : Nat → ClassId) (C0 : lw_At p s m meth c b 6 xs) (hK : va_K (dC, dI) vwCl (tX ax ++ tM am) s) (hP : va_P (dC, dI) vwCl (wX gx ax ++ wM gm am) H) (hD : va_D (fun q : Nat => s.heap.size ≤ q) (wX gx ax ++ wM gm am)) (hS : va_S (fun q : Nat => s.heap.size ≤ q) s.heap H locs) (hl : lv_has ls 4 [(0, .ref b), (1, .ref (gx 0)), (2, .ref (gm 0)), (3, .int 0)]) (hend : (∀ (H : Heap) (locs : List Loc) (ls : Array Slot), va_S (fun q : Nat => s.heap.size ≤ q) s.heap H locs → lv_has ls 4 [(0, .ref b), (1, .ref (gx 0)), (2, .ref (gm 0)), (3, .int 0)] → LG p l e s m b below meth c H locs (F0 m 2148 ls []))) : LG p l e s m b below meth c H locs (F0 m 1631 ls []) := by
  obtain ⟨hx, hb, hr, hml, hown, hts, hX, hbl, hlocks, hgv⟩ := C0
  have hT : ∀ w ∈ TB, w.before #[Value.ref b] s = true := fun w h => hts w (TB_lw h)
  have hown : s.vm.findClass RL = some m.cls := hown
  have hA : ∀ q : Nat, s.heap.size ≤ q → (fun q : Nat => s.heap.size ≤ q) q := fun _ h => h
  have hbA : ¬ (fun q : Nat => s.heap.size ≤ q) b := Nat.not_le.mpr hbl
  refine lv_aload_n hx hb dL_law_1631 rfl (lv_at hl 1 rfl) ?_
  refine lv_aload_n hx hb dL_law_1632 rfl (lv_at hl 0 rfl) ?_
  refine lv_iload_n hx hb dL_law_1633 rfl (lv_at hl 3 rfl) ?_
  refine lv_iconst (v := 1) hx hb dL_law_1634 (by decide) ?_
  refine lv_iadd hx hb dL_law_1635 ?_
  refine t_i 1 (by decide) ?_
  refine va_sld hx hb hX hbl hbA hS (by unfold vp_in; decide) dL_law_1636 ?_
  refine lv_aload_n hx hb dL_law_1637 rfl (lv_at hl 0 rfl) ?_
  refine lv_iload_n hx hb dL_law_1638 rfl (lv_at hl 3 rfl) ?_
  refine lv_iconst (v := 2) hx hb dL_law_1639 (by decide) ?_
  refine lv_iadd hx hb dL_law_1640 ?_
  refine t_i 2 (by decide) ?_
  refine va_sld hx hb hX hbl hbA hS (by unfold vp_in; decide) dL_law_1641 ?_
  refine lv_aload_n hx hb dL_law_1642 rfl (lv_at hl 0 rfl) ?_
  refine lv_iload_n hx hb dL_law_1643 rfl (lv_at hl 3 rfl) ?_
  refine lv_iconst (v := 3) hx hb dL_law_1644 (by decide) ?_
  refine lv_iadd hx hb dL_law_1645 ?_
  refine t_i 3 (by decide) ?_
  refine va_sld hx hb hX hbl hbA hS (by unfold vp_in; decide) dL_law_1646 ?_
  refine c_Vl (C := RX8) (As := [.int (xs (1 : Int32).toNatClampNeg), .int (xs (2 : Int32).toNatClampNeg), .int (xs (3 : Int32).toNatClampNeg)]) (rest := []) (wr := (wM gm am)) (n := 3) ⟨hx, hb, hml, hown, hT⟩ (k_X8_chance l dC dI gx ax (xs (1 : Int32).toNatClampNeg) (xs (2 : Int32).toNatClampNeg) (xs (3 : Int32).toNatClampNeg)) hK hP hD hS hA [12] rfl [0, 16, 17] [74, 75, 76, 77, 78, 79, 80, 81, 82, 83, 84, 85, 86, 87] rfl rfl rfl rfl (by decide) rfl rfl mw_874 mw_875 mw_876 mw_69 mw_877 (by decide +kernel) ⟨Nat.le_of_ble_eq_true rfl, Nat.le_of_ble_eq_true rfl⟩ ⟨rfl, rfl⟩ rfl hl.1 (Nat.le_of_ble_eq_true rfl) rfl dL_law_1647 ⟨Nat.le_of_ble_eq_true rfl, Nat.le_of_ble_eq_true rfl⟩ (fun r1 f1 H locs er1 hP hD hS => ?_)
  have er1 : r1 = (-2) := er1
  have hP : va_P (dC, dI) vwCl (wM gm am) H := hP
  have hD : va_D (fun q : Nat => s.heap.size ≤ q) (wM gm am) := hD
  refine lv_aload_n hx hb dL_law_1650 rfl (lv_at hl 2 rfl) ?_
  refine lv_aload_n hx hb dL_law_1651 rfl (lv_at hl 0 rfl) ?_
  refine lv_iload_n hx hb dL_law_1652 rfl (lv_at hl 3 rfl) ?_
  refine lv_iconst (v := 1) hx hb dL_law_1653 (by decide) ?_
  refine lv_iadd hx hb dL_law_1654 ?_
  refine t_i 1 (by decide) ?_
  refine va_sld hx hb hX hbl hbA hS (by unfold vp_in; decide) dL_law_1655 ?_
  refine lv_aload_n hx hb dL_law_1656 rfl (lv_at hl 0 rfl) ?_
  refine lv_iload_n hx hb dL_law_1657 rfl (lv_at hl 3 rfl) ?_
  refine lv_iconst (v := 2) hx hb dL_law_1658 (by decide) ?_
  refine lv_iadd hx hb dL_law_1659 ?_
  refine t_i 2 (by decide) ?_
  refine va_sld hx hb hX hbl hbA hS (by unfold vp_in; decide) dL_law_1660 ?_
  refine lv_aload_n hx hb dL_law_1661 rfl (lv_at hl 0 rfl) ?_
  refine lv_iload_n hx hb dL_law_1662 rfl (lv_at hl 3 rfl) ?_
  refine lv_iconst (v := 3) hx hb dL_law_1663 (by decide) ?_
  refine lv_iadd hx hb dL_law_1664 ?_
  refine t_i 3 (by decide) ?_
  refine va_sld hx hb hX hbl hbA hS (by unfold vp_in; decide) dL_law_1665 ?_
  refine c_Vl (C := RX9) (As := [.int (xs (1 : Int32).toNatClampNeg), .int (xs (2 : Int32).toNatClampNeg), .int (xs (3 : Int32).toNatClampNeg)]) (rest := [.long r1]) (wr := []) (n := 3) ⟨hx, hb, hml, hown, hT⟩ (k_X9_chance l dC dI gm am (xs (1 : Int32).toNatClampNeg) (xs (2 : Int32).toNatClampNeg) (xs (3 : Int32).toNatClampNeg)) hK hP hD hS hA [63] rfl [0, 1] [] rfl rfl rfl rfl (by decide) rfl rfl mw_878 mw_879 mw_880 mw_19 mw_881 (by decide +kernel) ⟨Nat.le_of_ble_eq_true rfl, Nat.le_of_ble_eq_true rfl⟩ ⟨rfl, rfl⟩ rfl hl.1 (Nat.le_of_ble_eq_true rfl) rfl dL_law_1666 ⟨Nat.le_of_ble_eq_true rfl, Nat.le_of_ble_eq_true rfl⟩ (fun r2 f2 H locs er2 hP hD hS => ?_)
  have er2 : r2 = (-2) := er2
  refine W.lcmp hx hb dL_law_1669 ?_
  exact lv_if_eq (tgt := 2148) hx hb dL_law_1670 (by decide) (fun _ => hend _ _ _ hS hl) (fun c9 => absurd ((lg_cmp_eq r1 r2).mpr (er1.trans er2.symm)) c9)
