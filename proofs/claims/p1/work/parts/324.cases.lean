set_option maxRecDepth 100000 in
set_option maxHeartbeats 4000000 in
theorem lc_40 {p : Program} {l : Launch} {e : Env} {s : State} {m : MethodId} {below : List Frame} {meth : Method} {c : Code} {dC : Nat → ClassId} {dI : Nat → Nat → Nat} {b : Nat} {xs : Nat → Int32} {H : Heap} {locs : List Loc} {ls : Array Slot} (gx : Nat → Nat) (ax : Nat → ClassId) (gm : Nat → Nat) (am : Nat → ClassId) (C0 : lw_At p s m meth c b 6 xs) (hK : va_K (dC, dI) vwCl (tX ax ++ tM am) s) (hP : va_P (dC, dI) vwCl (wX gx ax ++ wM gm am) H) (hD : va_D (fun q : Nat => s.heap.size ≤ q) (wX gx ax ++ wM gm am)) (hS : va_S (fun q : Nat => s.heap.size ≤ q) s.heap H locs) (hl : lv_has ls 4 [(0, .ref b), (1, .ref (gx 0)), (2, .ref (gm 0)), (3, .int 0)]) (hend : (∀ (H : Heap) (locs : List Loc) (ls : Array Slot), va_S (fun q : Nat => s.heap.size ≤ q) s.heap H locs → lv_has ls 4 [(0, .ref b), (1, .ref (gx 0)), (2, .ref (gm 0)), (3, .int 0)] → LG p l e s m b below meth c H locs (F0 m 2148 ls []))) : LG p l e s m b below meth c H locs (F0 m 1234 ls []) := by
  obtain ⟨hx, hb, hr, hml, hown, hts, hX, hbl, hlocks, hgv⟩ := C0
  have hT : ∀ w ∈ TB, w.before #[Value.ref b] s = true := fun w h => hts w (TB_lw h)
  have hown : s.vm.findClass RL = some m.cls := hown
  have hA : ∀ q : Nat, s.heap.size ≤ q → (fun q : Nat => s.heap.size ≤ q) q := fun _ h => h
  have hbA : ¬ (fun q : Nat => s.heap.size ≤ q) b := Nat.not_le.mpr hbl
  refine lv_aload_n hx hb dL_law_1234 rfl (lv_at hl 1 rfl) ?_
  refine c_Vi (C := RX8) (As := []) (rest := []) (wr := (wM gm am)) (n := 0) ⟨hx, hb, hml, hown, hT⟩ (k_X8_slow l dC dI gx ax ) hK hP hD hS hA [12] rfl [0, 16, 17] [74, 75, 76, 77, 78, 79, 80, 81, 82, 83, 84, 85, 86, 87] rfl rfl rfl rfl (by decide) rfl rfl mw_722 mw_723 mw_724 mw_69 mw_725 (by decide +kernel) ⟨Nat.le_of_ble_eq_true rfl, Nat.le_of_ble_eq_true rfl⟩ ⟨rfl, rfl⟩ rfl hl.1 (Nat.le_of_ble_eq_true rfl) rfl dL_law_1235 ⟨Nat.le_of_ble_eq_true rfl, Nat.le_of_ble_eq_true rfl⟩ (fun r1 f1 H locs er1 hP hD hS => ?_)
  have er1 : r1 = (-2) := er1
  have hP : va_P (dC, dI) vwCl (wM gm am) H := hP
  have hD : va_D (fun q : Nat => s.heap.size ≤ q) (wM gm am) := hD
  refine lv_aload_n hx hb dL_law_1238 rfl (lv_at hl 2 rfl) ?_
  refine c_Vi (C := RX9) (As := []) (rest := [.int r1]) (wr := []) (n := 0) ⟨hx, hb, hml, hown, hT⟩ (k_X9_slow l dC dI gm am ) hK hP hD hS hA [63, 69, 71, 72, 70] rfl [0, 1, 7, 9, 10, 8] [] rfl rfl rfl rfl (by decide) rfl rfl mw_726 mw_727 mw_728 mw_19 mw_729 (by decide +kernel) ⟨Nat.le_of_ble_eq_true rfl, Nat.le_of_ble_eq_true rfl⟩ ⟨rfl, rfl⟩ rfl hl.1 (Nat.le_of_ble_eq_true rfl) rfl dL_law_1239 ⟨Nat.le_of_ble_eq_true rfl, Nat.le_of_ble_eq_true rfl⟩ (fun r2 f2 H locs er2 hP hD hS => ?_)
  have er2 : r2 = (-2) := er2
  exact lv_icmp_eq (tgt := 2148) hx hb dL_law_1242 (by decide) (fun _ => hend _ _ _ hS hl) (fun c9 => absurd (er1.trans er2.symm) c9)
set_option maxRecDepth 100000 in
set_option maxHeartbeats 4000000 in
theorem lc_41 {p : Program} {l : Launch} {e : Env} {s : State} {m : MethodId} {below : List Frame} {meth : Method} {c : Code} {dC : Nat → ClassId} {dI : Nat → Nat → Nat} {b : Nat} {xs : Nat → Int32} {H : Heap} {locs : List Loc} {ls : Array Slot} (gx : Nat → Nat) (ax : Nat → ClassId) (gm : Nat → Nat) (am : Nat → ClassId) (C0 : lw_At p s m meth c b 6 xs) (hK : va_K (dC, dI) vwCl (tX ax ++ tM am) s) (hP : va_P (dC, dI) vwCl (wX gx ax ++ wM gm am) H) (hD : va_D (fun q : Nat => s.heap.size ≤ q) (wX gx ax ++ wM gm am)) (hS : va_S (fun q : Nat => s.heap.size ≤ q) s.heap H locs) (hl : lv_has ls 4 [(0, .ref b), (1, .ref (gx 0)), (2, .ref (gm 0)), (3, .int 0)]) (hend : (∀ (H : Heap) (locs : List Loc) (ls : Array Slot), va_S (fun q : Nat => s.heap.size ≤ q) s.heap H locs → lv_has ls 4 [(0, .ref b), (1, .ref (gx 0)), (2, .ref (gm 0)), (3, .int 0)] → LG p l e s m b below meth c H locs (F0 m 2148 ls []))) : LG p l e s m b below meth c H locs (F0 m 1247 ls []) := by
  obtain ⟨hx, hb, hr, hml, hown, hts, hX, hbl, hlocks, hgv⟩ := C0
  have hT : ∀ w ∈ TB, w.before #[Value.ref b] s = true := fun w h => hts w (TB_lw h)
  have hown : s.vm.findClass RL = some m.cls := hown
  have hA : ∀ q : Nat, s.heap.size ≤ q → (fun q : Nat => s.heap.size ≤ q) q := fun _ h => h
  have hbA : ¬ (fun q : Nat => s.heap.size ≤ q) b := Nat.not_le.mpr hbl
  refine lv_aload_n hx hb dL_law_1247 rfl (lv_at hl 1 rfl) ?_
  refine c_Vi (C := RX8) (As := []) (rest := []) (wr := (wM gm am)) (n := 0) ⟨hx, hb, hml, hown, hT⟩ (k_X8_enough l dC dI gx ax ) hK hP hD hS hA [12] rfl [0, 16, 17] [74, 75, 76, 77, 78, 79, 80, 81, 82, 83, 84, 85, 86, 87] rfl rfl rfl rfl (by decide) rfl rfl mw_730 mw_731 mw_732 mw_69 mw_733 (by decide +kernel) ⟨Nat.le_of_ble_eq_true rfl, Nat.le_of_ble_eq_true rfl⟩ ⟨rfl, rfl⟩ rfl hl.1 (Nat.le_of_ble_eq_true rfl) rfl dL_law_1248 ⟨Nat.le_of_ble_eq_true rfl, Nat.le_of_ble_eq_true rfl⟩ (fun r1 f1 H locs er1 hP hD hS => ?_)
  have er1 : r1 = (-2) := er1
  have hP : va_P (dC, dI) vwCl (wM gm am) H := hP
  have hD : va_D (fun q : Nat => s.heap.size ≤ q) (wM gm am) := hD
  refine lv_aload_n hx hb dL_law_1251 rfl (lv_at hl 2 rfl) ?_
  refine c_Vi (C := RX9) (As := []) (rest := [.int r1]) (wr := []) (n := 0) ⟨hx, hb, hml, hown, hT⟩ (k_X9_enough l dC dI gm am ) hK hP hD hS hA [63] rfl [0, 1] [] rfl rfl rfl rfl (by decide) rfl rfl mw_734 mw_735 mw_736 mw_19 mw_737 (by decide +kernel) ⟨Nat.le_of_ble_eq_true rfl, Nat.le_of_ble_eq_true rfl⟩ ⟨rfl, rfl⟩ rfl hl.1 (Nat.le_of_ble_eq_true rfl) rfl dL_law_1252 ⟨Nat.le_of_ble_eq_true rfl, Nat.le_of_ble_eq_true rfl⟩ (fun r2 f2 H locs er2 hP hD hS => ?_)
  have er2 : r2 = (-2) := er2
  exact lv_icmp_eq (tgt := 2148) hx hb dL_law_1255 (by decide) (fun _ => hend _ _ _ hS hl) (fun c9 => absurd (er1.trans er2.symm) c9)
set_option maxRecDepth 100000 in
set_option maxHeartbeats 4000000 in
theorem lc_42 {p : Program} {l : Launch} {e : Env} {s : State} {m : MethodId} {below : List Frame} {meth : Method} {c : Code} {dC : Nat → ClassId} {dI : Nat → Nat → Nat} {b : Nat} {xs : Nat → Int32} {H : Heap} {locs : List Loc} {ls : Array Slot} (gx : Nat → Nat) (ax : Nat → ClassId) (gm : Nat → Nat) (am : Nat → ClassId) (C0 : lw_At p s m meth c b 6 xs) (hK : va_K (dC, dI) vwCl (tX ax ++ tM am) s) (hP : va_P (dC, dI) vwCl (wX gx ax ++ wM gm am) H) (hD : va_D (fun q : Nat => s.heap.size ≤ q) (wX gx ax ++ wM gm am)) (hS : va_S (fun q : Nat => s.heap.size ≤ q) s.heap H locs) (hl : lv_has ls 4 [(0, .ref b), (1, .ref (gx 0)), (2, .ref (gm 0)), (3, .int 0)]) (hend : (∀ (H : Heap) (locs : List Loc) (ls : Array Slot), va_S (fun q : Nat => s.heap.size ≤ q) s.heap H locs → lv_has ls 4 [(0, .ref b), (1, .ref (gx 0)), (2, .ref (gm 0)), (3, .int 0)] → LG p l e s m b below meth c H locs (F0 m 2148 ls []))) : LG p l e s m b below meth c H locs (F0 m 1260 ls []) := by
  obtain ⟨hx, hb, hr, hml, hown, hts, hX, hbl, hlocks, hgv⟩ := C0
  have hT : ∀ w ∈ TB, w.before #[Value.ref b] s = true := fun w h => hts w (TB_lw h)
  have hown : s.vm.findClass RL = some m.cls := hown
  have hA : ∀ q : Nat, s.heap.size ≤ q → (fun q : Nat => s.heap.size ≤ q) q := fun _ h => h
  have hbA : ¬ (fun q : Nat => s.heap.size ≤ q) b := Nat.not_le.mpr hbl
  refine lv_aload_n hx hb dL_law_1260 rfl (lv_at hl 1 rfl) ?_
  refine c_Vi (C := RX8) (As := []) (rest := []) (wr := (wM gm am)) (n := 0) ⟨hx, hb, hml, hown, hT⟩ (k_X8_size l dC dI gx ax ) hK hP hD hS hA [12] rfl [0, 16, 17] [74, 75, 76, 77, 78, 79, 80, 81, 82, 83, 84, 85, 86, 87] rfl rfl rfl rfl (by decide) rfl rfl mw_738 mw_739 mw_740 mw_69 mw_741 (by decide +kernel) ⟨Nat.le_of_ble_eq_true rfl, Nat.le_of_ble_eq_true rfl⟩ ⟨rfl, rfl⟩ rfl hl.1 (Nat.le_of_ble_eq_true rfl) rfl dL_law_1261 ⟨Nat.le_of_ble_eq_true rfl, Nat.le_of_ble_eq_true rfl⟩ (fun r1 f1 H locs er1 hP hD hS => ?_)
  have er1 : r1 = (-2) := er1
  have hP : va_P (dC, dI) vwCl (wM gm am) H := hP
  have hD : va_D (fun q : Nat => s.heap.size ≤ q) (wM gm am) := hD
  refine lv_aload_n hx hb dL_law_1264 rfl (lv_at hl 2 rfl) ?_
  refine c_Vi (C := RX9) (As := []) (rest := [.int r1]) (wr := []) (n := 0) ⟨hx, hb, hml, hown, hT⟩ (k_X9_size l dC dI gm am ) hK hP hD hS hA [63] rfl [0, 1] [] rfl rfl rfl rfl (by decide) rfl rfl mw_742 mw_743 mw_744 mw_19 mw_745 (by decide +kernel) ⟨Nat.le_of_ble_eq_true rfl, Nat.le_of_ble_eq_true rfl⟩ ⟨rfl, rfl⟩ rfl hl.1 (Nat.le_of_ble_eq_true rfl) rfl dL_law_1265 ⟨Nat.le_of_ble_eq_true rfl, Nat.le_of_ble_eq_true rfl⟩ (fun r2 f2 H locs er2 hP hD hS => ?_)
  have er2 : r2 = (-2) := er2
  exact lv_icmp_eq (tgt := 2148) hx hb dL_law_1268 (by decide) (fun _ => hend _ _ _ hS hl) (fun c9 => absurd (er1.trans er2.symm) c9)
set_option maxRecDepth 100000 in
set_option maxHeartbeats 4000000 in
theorem lc_43 {p : Program} {l : Launch} {e : Env} {s : State} {m : MethodId} {below : List Frame} {meth : Method} {c : Code} {dC : Nat → ClassId} {dI : Nat → Nat → Nat} {b : Nat} {xs : Nat → Int32} {H : Heap} {locs : List Loc} {ls : Array Slot} (gx : Nat → Nat) (ax : Nat → ClassId) (gm : Nat → Nat) (am : Nat → ClassId) (C0 : lw_At p s m meth c b 6 xs) (hK : va_K (dC, dI) vwCl (tX ax ++ tM am) s) (hP : va_P (dC, dI) vwCl (wX gx ax ++ wM gm am) H) (hD : va_D (fun q : Nat => s.heap.size ≤ q) (wX gx ax ++ wM gm am)) (hS : va_S (fun q : Nat => s.heap.size ≤ q) s.heap H locs) (hl : lv_has ls 4 [(0, .ref b), (1, .ref (gx 0)), (2, .ref (gm 0)), (3, .int 0)]) (hend : (∀ (H : Heap) (locs : List Loc) (ls : Array Slot), va_S (fun q : Nat => s.heap.size ≤ q) s.heap H locs → lv_has ls 4 [(0, .ref b), (1, .ref (gx 0)), (2, .ref (gm 0)), (3, .int 0)] → LG p l e s m b below meth c H locs (F0 m 2148 ls []))) : LG p l e s m b below meth c H locs (F0 m 1273 ls []) := by
  obtain ⟨hx, hb, hr, hml, hown, hts, hX, hbl, hlocks, hgv⟩ := C0
  have hT : ∀ w ∈ TB, w.before #[Value.ref b] s = true := fun w h => hts w (TB_lw h)
  have hown : s.vm.findClass RL = some m.cls := hown
  have hA : ∀ q : Nat, s.heap.size ≤ q → (fun q : Nat => s.heap.size ≤ q) q := fun _ h => h
  have hbA : ¬ (fun q : Nat => s.heap.size ≤ q) b := Nat.not_le.mpr hbl
  refine lv_aload_n hx hb dL_law_1273 rfl (lv_at hl 1 rfl) ?_
  refine c_Vi (C := RX8) (As := []) (rest := []) (wr := (wM gm am)) (n := 0) ⟨hx, hb, hml, hown, hT⟩ (k_X8_heat l dC dI gx ax ) hK hP hD hS hA [12] rfl [0, 16, 17] [74, 75, 76, 77, 78, 79, 80, 81, 82, 83, 84, 85, 86, 87] rfl rfl rfl rfl (by decide) rfl rfl mw_746 mw_747 mw_748 mw_69 mw_749 (by decide +kernel) ⟨Nat.le_of_ble_eq_true rfl, Nat.le_of_ble_eq_true rfl⟩ ⟨rfl, rfl⟩ rfl hl.1 (Nat.le_of_ble_eq_true rfl) rfl dL_law_1274 ⟨Nat.le_of_ble_eq_true rfl, Nat.le_of_ble_eq_true rfl⟩ (fun r1 f1 H locs er1 hP hD hS => ?_)
  have er1 : r1 = (-2) := er1
  have hP : va_P (dC, dI) vwCl (wM gm am) H := hP
  have hD : va_D (fun q : Nat => s.heap.size ≤ q) (wM gm am) := hD
  refine lv_aload_n hx hb dL_law_1277 rfl (lv_at hl 2 rfl) ?_
  refine c_Vi (C := RX9) (As := []) (rest := [.int r1]) (wr := []) (n := 0) ⟨hx, hb, hml, hown, hT⟩ (k_X9_heat l dC dI gm am ) hK hP hD hS hA [63, 69, 71, 72, 70] rfl [0, 1, 7, 9, 10, 8] [] rfl rfl rfl rfl (by decide) rfl rfl mw_750 mw_751 mw_752 mw_19 mw_753 (by decide +kernel) ⟨Nat.le_of_ble_eq_true rfl, Nat.le_of_ble_eq_true rfl⟩ ⟨rfl, rfl⟩ rfl hl.1 (Nat.le_of_ble_eq_true rfl) rfl dL_law_1278 ⟨Nat.le_of_ble_eq_true rfl, Nat.le_of_ble_eq_true rfl⟩ (fun r2 f2 H locs er2 hP hD hS => ?_)
  have er2 : r2 = (-2) := er2
  exact lv_icmp_eq (tgt := 2148) hx hb dL_law_1281 (by decide) (fun _ => hend _ _ _ hS hl) (fun c9 => absurd (er1.trans er2.symm) c9)
set_option maxRecDepth 100000 in
set_option maxHeartbeats 4000000 in
theorem lc_44 {p : Program} {l : Launch} {e : Env} {s : State} {m : MethodId} {below : List Frame} {meth : Method} {c : Code} {dC : Nat → ClassId} {dI : Nat → Nat → Nat} {b : Nat} {xs : Nat → Int32} {H : Heap} {locs : List Loc} {ls : Array Slot} (gx : Nat → Nat) (ax : Nat → ClassId) (gm : Nat → Nat) (am : Nat → ClassId) (C0 : lw_At p s m meth c b 6 xs) (hK : va_K (dC, dI) vwCl (tX ax ++ tM am) s) (hP : va_P (dC, dI) vwCl (wX gx ax ++ wM gm am) H) (hD : va_D (fun q : Nat => s.heap.size ≤ q) (wX gx ax ++ wM gm am)) (hS : va_S (fun q : Nat => s.heap.size ≤ q) s.heap H locs) (hl : lv_has ls 4 [(0, .ref b), (1, .ref (gx 0)), (2, .ref (gm 0)), (3, .int 0)]) (hend : (∀ (H : Heap) (locs : List Loc) (ls : Array Slot), va_S (fun q : Nat => s.heap.size ≤ q) s.heap H locs → lv_has ls 4 [(0, .ref b), (1, .ref (gx 0)), (2, .ref (gm 0)), (3, .int 0)] → LG p l e s m b below meth c H locs (F0 m 2148 ls []))) : LG p l e s m b below meth c H locs (F0 m 1286 ls []) := by
  obtain ⟨hx, hb, hr, hml, hown, hts, hX, hbl, hlocks, hgv⟩ := C0
  have hT : ∀ w ∈ TB, w.before #[Value.ref b] s = true := fun w h => hts w (TB_lw h)
  have hown : s.vm.findClass RL = some m.cls := hown
  have hA : ∀ q : Nat, s.heap.size ≤ q → (fun q : Nat => s.heap.size ≤ q) q := fun _ h => h
  have hbA : ¬ (fun q : Nat => s.heap.size ≤ q) b := Nat.not_le.mpr hbl
  refine lv_aload_n hx hb dL_law_1286 rfl (lv_at hl 1 rfl) ?_
  refine c_Vi (C := RX8) (As := []) (rest := []) (wr := (wM gm am)) (n := 0) ⟨hx, hb, hml, hown, hT⟩ (k_X8_orders l dC dI gx ax ) hK hP hD hS hA [12] rfl [0, 16, 17] [74, 75, 76, 77, 78, 79, 80, 81, 82, 83, 84, 85, 86, 87] rfl rfl rfl rfl (by decide) rfl rfl mw_754 mw_755 mw_756 mw_69 mw_757 (by decide +kernel) ⟨Nat.le_of_ble_eq_true rfl, Nat.le_of_ble_eq_true rfl⟩ ⟨rfl, rfl⟩ rfl hl.1 (Nat.le_of_ble_eq_true rfl) rfl dL_law_1287 ⟨Nat.le_of_ble_eq_true rfl, Nat.le_of_ble_eq_true rfl⟩ (fun r1 f1 H locs er1 hP hD hS => ?_)
  have er1 : r1 = (-2) := er1
  have hP : va_P (dC, dI) vwCl (wM gm am) H := hP
  have hD : va_D (fun q : Nat => s.heap.size ≤ q) (wM gm am) := hD
  refine lv_aload_n hx hb dL_law_1290 rfl (lv_at hl 2 rfl) ?_
  refine c_Vi (C := RX9) (As := []) (rest := [.int r1]) (wr := []) (n := 0) ⟨hx, hb, hml, hown, hT⟩ (k_X9_orders l dC dI gm am ) hK hP hD hS hA [63] rfl [0, 1] [] rfl rfl rfl rfl (by decide) rfl rfl mw_758 mw_759 mw_760 mw_19 mw_761 (by decide +kernel) ⟨Nat.le_of_ble_eq_true rfl, Nat.le_of_ble_eq_true rfl⟩ ⟨rfl, rfl⟩ rfl hl.1 (Nat.le_of_ble_eq_true rfl) rfl dL_law_1291 ⟨Nat.le_of_ble_eq_true rfl, Nat.le_of_ble_eq_true rfl⟩ (fun r2 f2 H locs er2 hP hD hS => ?_)
  have er2 : r2 = (-2) := er2
  exact lv_icmp_eq (tgt := 2148) hx hb dL_law_1294 (by decide) (fun _ => hend _ _ _ hS hl) (fun c9 => absurd (er1.trans er2.symm) c9)
set_option maxRecDepth 100000 in
set_option maxHeartbeats 4000000 in
theorem lc_45 {p : Program} {l : Launch} {e : Env} {s : State} {m : MethodId} {below : List Frame} {meth : Method} {c : Code} {dC : Nat → ClassId} {dI : Nat → Nat → Nat} {b : Nat} {xs : Nat → Int32} {H : Heap} {locs : List Loc} {ls : Array Slot} (gx : Nat → Nat) (ax : Nat → ClassId) (gm : Nat → Nat) (am : Nat → ClassId) (C0 : lw_At p s m meth c b 6 xs) (hK : va_K (dC, dI) vwCl (tX ax ++ tM am) s) (hP : va_P (dC, dI) vwCl (wX gx ax ++ wM gm am) H) (hD : va_D (fun q : Nat => s.heap.size ≤ q) (wX gx ax ++ wM gm am)) (hS : va_S (fun q : Nat => s.heap.size ≤ q) s.heap H locs) (hl : lv_has ls 4 [(0, .ref b), (1, .ref (gx 0)), (2, .ref (gm 0)), (3, .int 0)]) (hend : (∀ (H : Heap) (locs : List Loc) (ls : Array Slot), va_S (fun q : Nat => s.heap.size ≤ q) s.heap H locs → lv_has ls 4 [(0, .ref b), (1, .ref (gx 0)), (2, .ref (gm 0)), (3, .int 0)] → LG p l e s m b below meth c H locs (F0 m 2148 ls []))) : LG p l e s m b below meth c H locs (F0 m 1299 ls []) := by
  obtain ⟨hx, hb, hr, hml, hown, hts, hX, hbl, hlocks, hgv⟩ := C0
  have hT : ∀ w ∈ TB, w.before #[Value.ref b] s = true := fun w h => hts w (TB_lw h)
  have hown : s.vm.findClass RL = some m.cls := hown
  have hA : ∀ q : Nat, s.heap.size ≤ q → (fun q : Nat => s.heap.size ≤ q) q := fun _ h => h
  have hbA : ¬ (fun q : Nat => s.heap.size ≤ q) b := Nat.not_le.mpr hbl
  refine lv_aload_n hx hb dL_law_1299 rfl (lv_at hl 1 rfl) ?_
  refine c_Vi (C := RX8) (As := []) (rest := []) (wr := (wM gm am)) (n := 0) ⟨hx, hb, hml, hown, hT⟩ (k_X8_best l dC dI gx ax ) hK hP hD hS hA [12] rfl [0, 16, 17] [74, 75, 76, 77, 78, 79, 80, 81, 82, 83, 84, 85, 86, 87] rfl rfl rfl rfl (by decide) rfl rfl mw_762 mw_763 mw_764 mw_69 mw_765 (by decide +kernel) ⟨Nat.le_of_ble_eq_true rfl, Nat.le_of_ble_eq_true rfl⟩ ⟨rfl, rfl⟩ rfl hl.1 (Nat.le_of_ble_eq_true rfl) rfl dL_law_1300 ⟨Nat.le_of_ble_eq_true rfl, Nat.le_of_ble_eq_true rfl⟩ (fun r1 f1 H locs er1 hP hD hS => ?_)
  have er1 : r1 = (-2) := er1
  have hP : va_P (dC, dI) vwCl (wM gm am) H := hP
  have hD : va_D (fun q : Nat => s.heap.size ≤ q) (wM gm am) := hD
  refine lv_aload_n hx hb dL_law_1303 rfl (lv_at hl 2 rfl) ?_
  refine c_Vi (C := RX9) (As := []) (rest := [.int r1]) (wr := []) (n := 0) ⟨hx, hb, hml, hown, hT⟩ (k_X9_best l dC dI gm am ) hK hP hD hS hA [63] rfl [0, 1] [] rfl rfl rfl rfl (by decide) rfl rfl mw_766 mw_767 mw_768 mw_19 mw_769 (by decide +kernel) ⟨Nat.le_of_ble_eq_true rfl, Nat.le_of_ble_eq_true rfl⟩ ⟨rfl, rfl⟩ rfl hl.1 (Nat.le_of_ble_eq_true rfl) rfl dL_law_1304 ⟨Nat.le_of_ble_eq_true rfl, Nat.le_of_ble_eq_true rfl⟩ (fun r2 f2 H locs er2 hP hD hS => ?_)
  have er2 : r2 = (-2) := er2
  exact lv_icmp_eq (tgt := 2148) hx hb dL_law_1307 (by decide) (fun _ => hend _ _ _ hS hl) (fun c9 => absurd (er1.trans er2.symm) c9)
set_option maxRecDepth 100000 in
set_option maxHeartbeats 4000000 in
theorem lc_46 {p : Program} {l : Launch} {e : Env} {s : State} {m : MethodId} {below : List Frame} {meth : Method} {c : Code} {dC : Nat → ClassId} {dI : Nat → Nat → Nat} {b : Nat} {xs : Nat → Int32} {H : Heap} {locs : List Loc} {ls : Array Slot} (gx : Nat → Nat) (ax : Nat → ClassId) (gm : Nat → Nat) (am : Nat → ClassId) (C0 : lw_At p s m meth c b 6 xs) (hK : va_K (dC, dI) vwCl (tX ax ++ tM am) s) (hP : va_P (dC, dI) vwCl (wX gx ax ++ wM gm am) H) (hD : va_D (fun q : Nat => s.heap.size ≤ q) (wX gx ax ++ wM gm am)) (hS : va_S (fun q : Nat => s.heap.size ≤ q) s.heap H locs) (hl : lv_has ls 4 [(0, .ref b), (1, .ref (gx 0)), (2, .ref (gm 0)), (3, .int 0)]) (hend : (∀ (H : Heap) (locs : List Loc) (ls : Array Slot), va_S (fun q : Nat => s.heap.size ≤ q) s.heap H locs → lv_has ls 4 [(0, .ref b), (1, .ref (gx 0)), (2, .ref (gm 0)), (3, .int 0)] → LG p l e s m b below meth c H locs (F0 m 2148 ls []))) : LG p l e s m b below meth c H locs (F0 m 1312 ls []) := by
  obtain ⟨hx, hb, hr, hml, hown, hts, hX, hbl, hlocks, hgv⟩ := C0
  have hT : ∀ w ∈ TB, w.before #[Value.ref b] s = true := fun w h => hts w (TB_lw h)
  have hown : s.vm.findClass RL = some m.cls := hown
  have hA : ∀ q : Nat, s.heap.size ≤ q → (fun q : Nat => s.heap.size ≤ q) q := fun _ h => h
  have hbA : ¬ (fun q : Nat => s.heap.size ≤ q) b := Nat.not_le.mpr hbl
  refine lv_aload_n hx hb dL_law_1312 rfl (lv_at hl 1 rfl) ?_
  refine lv_aload_n hx hb dL_law_1313 rfl (lv_at hl 0 rfl) ?_
  refine lv_iload_n hx hb dL_law_1314 rfl (lv_at hl 3 rfl) ?_
  refine lv_iconst (v := 1) hx hb dL_law_1315 (by decide) ?_
  refine lv_iadd hx hb dL_law_1316 ?_
  refine t_i 1 (by decide) ?_
  refine va_sld hx hb hX hbl hbA hS (by unfold vp_in; decide) dL_law_1317 ?_
  refine c_Vi (C := RX8) (As := [.int (xs (1 : Int32).toNatClampNeg)]) (rest := []) (wr := (wM gm am)) (n := 1) ⟨hx, hb, hml, hown, hT⟩ (k_X8_place l dC dI gx ax (xs (1 : Int32).toNatClampNeg)) hK hP hD hS hA [12] rfl [0, 16, 17] [74, 75, 76, 77, 78, 79, 80, 81, 82, 83, 84, 85, 86, 87] rfl rfl rfl rfl (by decide) rfl rfl mw_770 mw_771 mw_772 mw_69 mw_773 (by decide +kernel) ⟨Nat.le_of_ble_eq_true rfl, Nat.le_of_ble_eq_true rfl⟩ ⟨rfl, rfl⟩ rfl hl.1 (Nat.le_of_ble_eq_true rfl) rfl dL_law_1318 ⟨Nat.le_of_ble_eq_true rfl, Nat.le_of_ble_eq_true rfl⟩ (fun r1 f1 H locs er1 hP hD hS => ?_)
  have er1 : r1 = (-2) := er1
  have hP : va_P (dC, dI) vwCl (wM gm am) H := hP
  have hD : va_D (fun q : Nat => s.heap.size ≤ q) (wM gm am) := hD
  refine lv_aload_n hx hb dL_law_1321 rfl (lv_at hl 2 rfl) ?_
  refine lv_aload_n hx hb dL_law_1322 rfl (lv_at hl 0 rfl) ?_
  refine lv_iload_n hx hb dL_law_1323 rfl (lv_at hl 3 rfl) ?_
  refine lv_iconst (v := 1) hx hb dL_law_1324 (by decide) ?_
  refine lv_iadd hx hb dL_law_1325 ?_
  refine t_i 1 (by decide) ?_
  refine va_sld hx hb hX hbl hbA hS (by unfold vp_in; decide) dL_law_1326 ?_
  refine c_Vi (C := RX9) (As := [.int (xs (1 : Int32).toNatClampNeg)]) (rest := [.int r1]) (wr := []) (n := 1) ⟨hx, hb, hml, hown, hT⟩ (k_X9_place l dC dI gm am (xs (1 : Int32).toNatClampNeg)) hK hP hD hS hA [63] rfl [0, 1] [] rfl rfl rfl rfl (by decide) rfl rfl mw_774 mw_775 mw_776 mw_19 mw_777 (by decide +kernel) ⟨Nat.le_of_ble_eq_true rfl, Nat.le_of_ble_eq_true rfl⟩ ⟨rfl, rfl⟩ rfl hl.1 (Nat.le_of_ble_eq_true rfl) rfl dL_law_1327 ⟨Nat.le_of_ble_eq_true rfl, Nat.le_of_ble_eq_true rfl⟩ (fun r2 f2 H locs er2 hP hD hS => ?_)
  have er2 : r2 = (-2) := er2
  exact lv_icmp_eq (tgt := 2148) hx hb dL_law_1330 (by decide) (fun _ => hend _ _ _ hS hl) (fun c9 => absurd (er1.trans er2.symm) c9)
set_option maxRecDepth 100000 in
set_option maxHeartbeats 4000000 in
theorem lc_47 {p : Program} {l : Launch} {e : Env} {s : State} {m : MethodId} {below : List Frame} {meth : Method} {c : Code} {dC : Nat → ClassId} {dI : Nat → Nat → Nat} {b : Nat} {xs : Nat → Int32} {H : Heap} {locs : List Loc} {ls : Array Slot} (gx : Nat → Nat) (ax : Nat → ClassId) (gm : Nat → Nat) (am : Nat → ClassId) (C0 : lw_At p s m meth c b 6 xs) (hK : va_K (dC, dI) vwCl (tX ax ++ tM am) s) (hP : va_P (dC, dI) vwCl (wX gx ax ++ wM gm am) H) (hD : va_D (fun q : Nat => s.heap.size ≤ q) (wX gx ax ++ wM gm am)) (hS : va_S (fun q : Nat => s.heap.size ≤ q) s.heap H locs) (hl : lv_has ls 4 [(0, .ref b), (1, .ref (gx 0)), (2, .ref (gm 0)), (3, .int 0)]) (hend : (∀ (H : Heap) (locs : List Loc) (ls : Array Slot), va_S (fun q : Nat => s.heap.size ≤ q) s.heap H locs → lv_has ls 4 [(0, .ref b), (1, .ref (gx 0)), (2, .ref (gm 0)), (3, .int 0)] → LG p l e s m b below meth c H locs (F0 m 2148 ls []))) : LG p l e s m b below meth c H locs (F0 m 1335 ls []) := by
  obtain ⟨hx, hb, hr, hml, hown, hts, hX, hbl, hlocks, hgv⟩ := C0
  have hT : ∀ w ∈ TB, w.before #[Value.ref b] s = true := fun w h => hts w (TB_lw h)
  have hown : s.vm.findClass RL = some m.cls := hown
  have hA : ∀ q : Nat, s.heap.size ≤ q → (fun q : Nat => s.heap.size ≤ q) q := fun _ h => h
  have hbA : ¬ (fun q : Nat => s.heap.size ≤ q) b := Nat.not_le.mpr hbl
  refine lv_aload_n hx hb dL_law_1335 rfl (lv_at hl 1 rfl) ?_
  refine c_Vi (C := RX8) (As := []) (rest := []) (wr := (wM gm am)) (n := 0) ⟨hx, hb, hml, hown, hT⟩ (k_X8_soonest l dC dI gx ax ) hK hP hD hS hA [12] rfl [0, 16, 17] [74, 75, 76, 77, 78, 79, 80, 81, 82, 83, 84, 85, 86, 87] rfl rfl rfl rfl (by decide) rfl rfl mw_778 mw_779 mw_780 mw_69 mw_781 (by decide +kernel) ⟨Nat.le_of_ble_eq_true rfl, Nat.le_of_ble_eq_true rfl⟩ ⟨rfl, rfl⟩ rfl hl.1 (Nat.le_of_ble_eq_true rfl) rfl dL_law_1336 ⟨Nat.le_of_ble_eq_true rfl, Nat.le_of_ble_eq_true rfl⟩ (fun r1 f1 H locs er1 hP hD hS => ?_)
  have er1 : r1 = (-2) := er1
  have hP : va_P (dC, dI) vwCl (wM gm am) H := hP
  have hD : va_D (fun q : Nat => s.heap.size ≤ q) (wM gm am) := hD
  refine lv_aload_n hx hb dL_law_1339 rfl (lv_at hl 2 rfl) ?_
  refine c_Vi (C := RX9) (As := []) (rest := [.int r1]) (wr := []) (n := 0) ⟨hx, hb, hml, hown, hT⟩ (k_X9_soonest l dC dI gm am ) hK hP hD hS hA [63] rfl [0, 1] [] rfl rfl rfl rfl (by decide) rfl rfl mw_782 mw_783 mw_784 mw_19 mw_785 (by decide +kernel) ⟨Nat.le_of_ble_eq_true rfl, Nat.le_of_ble_eq_true rfl⟩ ⟨rfl, rfl⟩ rfl hl.1 (Nat.le_of_ble_eq_true rfl) rfl dL_law_1340 ⟨Nat.le_of_ble_eq_true rfl, Nat.le_of_ble_eq_true rfl⟩ (fun r2 f2 H locs er2 hP hD hS => ?_)
  have er2 : r2 = (-2) := er2
  exact lv_icmp_eq (tgt := 2148) hx hb dL_law_1343 (by decide) (fun _ => hend _ _ _ hS hl) (fun c9 => absurd (er1.trans er2.symm) c9)
set_option maxRecDepth 100000 in
set_option maxHeartbeats 4000000 in
theorem lc_48 {p : Program} {l : Launch} {e : Env} {s : State} {m : MethodId} {below : List Frame} {meth : Method} {c : Code} {dC : Nat → ClassId} {dI : Nat → Nat → Nat} {b : Nat} {xs : Nat → Int32} {H : Heap} {locs : List Loc} {ls : Array Slot} (gx : Nat → Nat) (ax : Nat → ClassId) (gm : Nat → Nat) (am : Nat → ClassId) (C0 : lw_At p s m meth c b 6 xs) (hK : va_K (dC, dI) vwCl (tX ax ++ tM am) s) (hP : va_P (dC, dI) vwCl (wX gx ax ++ wM gm am) H) (hD : va_D (fun q : Nat => s.heap.size ≤ q) (wX gx ax ++ wM gm am)) (hS : va_S (fun q : Nat => s.heap.size ≤ q) s.heap H locs) (hl : lv_has ls 4 [(0, .ref b), (1, .ref (gx 0)), (2, .ref (gm 0)), (3, .int 0)]) (hend : (∀ (H : Heap) (locs : List Loc) (ls : Array Slot), va_S (fun q : Nat => s.heap.size ≤ q) s.heap H locs → lv_has ls 4 [(0, .ref b), (1, .ref (gx 0)), (2, .ref (gm 0)), (3, .int 0)] → LG p l e s m b below meth c H locs (F0 m 2148 ls []))) : LG p l e s m b below meth c H locs (F0 m 1348 ls []) := by
  obtain ⟨hx, hb, hr, hml, hown, hts, hX, hbl, hlocks, hgv⟩ := C0
  have hT : ∀ w ∈ TB, w.before #[Value.ref b] s = true := fun w h => hts w (TB_lw h)
  have hown : s.vm.findClass RL = some m.cls := hown
  have hA : ∀ q : Nat, s.heap.size ≤ q → (fun q : Nat => s.heap.size ≤ q) q := fun _ h => h
  have hbA : ¬ (fun q : Nat => s.heap.size ≤ q) b := Nat.not_le.mpr hbl
  refine lv_aload_n hx hb dL_law_1348 rfl (lv_at hl 1 rfl) ?_
  refine c_Vi (C := RX8) (As := []) (rest := []) (wr := (wM gm am)) (n := 0) ⟨hx, hb, hml, hown, hT⟩ (k_X8_change l dC dI gx ax ) hK hP hD hS hA [12] rfl [0, 16, 17] [74, 75, 76, 77, 78, 79, 80, 81, 82, 83, 84, 85, 86, 87] rfl rfl rfl rfl (by decide) rfl rfl mw_786 mw_787 mw_788 mw_69 mw_789 (by decide +kernel) ⟨Nat.le_of_ble_eq_true rfl, Nat.le_of_ble_eq_true rfl⟩ ⟨rfl, rfl⟩ rfl hl.1 (Nat.le_of_ble_eq_true rfl) rfl dL_law_1349 ⟨Nat.le_of_ble_eq_true rfl, Nat.le_of_ble_eq_true rfl⟩ (fun r1 f1 H locs er1 hP hD hS => ?_)
  have er1 : r1 = (-2) := er1
  have hP : va_P (dC, dI) vwCl (wM gm am) H := hP
  have hD : va_D (fun q : Nat => s.heap.size ≤ q) (wM gm am) := hD
  refine lv_aload_n hx hb dL_law_1352 rfl (lv_at hl 2 rfl) ?_
  refine c_Vi (C := RX9) (As := []) (rest := [.int r1]) (wr := []) (n := 0) ⟨hx, hb, hml, hown, hT⟩ (k_X9_change_ l dC dI gm am ) hK hP hD hS hA [63, 69, 71, 72, 70] rfl [0, 1, 7, 9, 10, 8] [] rfl rfl rfl rfl (by decide) rfl rfl mw_790 mw_791 mw_792 mw_19 mw_793 (by decide +kernel) ⟨Nat.le_of_ble_eq_true rfl, Nat.le_of_ble_eq_true rfl⟩ ⟨rfl, rfl⟩ rfl hl.1 (Nat.le_of_ble_eq_true rfl) rfl dL_law_1353 ⟨Nat.le_of_ble_eq_true rfl, Nat.le_of_ble_eq_true rfl⟩ (fun r2 f2 H locs er2 hP hD hS => ?_)
  have er2 : r2 = (-2) := er2
  exact lv_icmp_eq (tgt := 2148) hx hb dL_law_1356 (by decide) (fun _ => hend _ _ _ hS hl) (fun c9 => absurd (er1.trans er2.symm) c9)
set_option maxRecDepth 100000 in
set_option maxHeartbeats 4000000 in
theorem lc_49 {p : Program} {l : Launch} {e : Env} {s : State} {m : MethodId} {below : List Frame} {meth : Method} {c : Code} {dC : Nat → ClassId} {dI : Nat → Nat → Nat} {b : Nat} {xs : Nat → Int32} {H : Heap} {locs : List Loc} {ls : Array Slot} (gx : Nat → Nat) (ax : Nat → ClassId) (gm : Nat → Nat) (am : Nat → ClassId) (C0 : lw_At p s m meth c b 6 xs) (hK : va_K (dC, dI) vwCl (tX ax ++ tM am) s) (hP : va_P (dC, dI) vwCl (wX gx ax ++ wM gm am) H) (hD : va_D (fun q : Nat => s.heap.size ≤ q) (wX gx ax ++ wM gm am)) (hS : va_S (fun q : Nat => s.heap.size ≤ q) s.heap H locs) (hl : lv_has ls 4 [(0, .ref b), (1, .ref (gx 0)), (2, .ref (gm 0)), (3, .int 0)]) (hend : (∀ (H : Heap) (locs : List Loc) (ls : Array Slot), va_S (fun q : Nat => s.heap.size ≤ q) s.heap H locs → lv_has ls 4 [(0, .ref b), (1, .ref (gx 0)), (2, .ref (gm 0)), (3, .int 0)] → LG p l e s m b below meth c H locs (F0 m 2148 ls []))) : LG p l e s m b below meth c H locs (F0 m 1361 ls []) := by
  obtain ⟨hx, hb, hr, hml, hown, hts, hX, hbl, hlocks, hgv⟩ := C0
  have hT : ∀ w ∈ TB, w.before #[Value.ref b] s = true := fun w h => hts w (TB_lw h)
  have hown : s.vm.findClass RL = some m.cls := hown
  have hA : ∀ q : Nat, s.heap.size ≤ q → (fun q : Nat => s.heap.size ≤ q) q := fun _ h => h
  have hbA : ¬ (fun q : Nat => s.heap.size ≤ q) b := Nat.not_le.mpr hbl
  refine lv_aload_n hx hb dL_law_1361 rfl (lv_at hl 1 rfl) ?_
  refine c_Vi (C := RX8) (As := []) (rest := []) (wr := (wM gm am)) (n := 0) ⟨hx, hb, hml, hown, hT⟩ (k_X8_lets l dC dI gx ax ) hK hP hD hS hA [12] rfl [0, 16, 17] [74, 75, 76, 77, 78, 79, 80, 81, 82, 83, 84, 85, 86, 87] rfl rfl rfl rfl (by decide) rfl rfl mw_794 mw_795 mw_796 mw_69 mw_797 (by decide +kernel) ⟨Nat.le_of_ble_eq_true rfl, Nat.le_of_ble_eq_true rfl⟩ ⟨rfl, rfl⟩ rfl hl.1 (Nat.le_of_ble_eq_true rfl) rfl dL_law_1362 ⟨Nat.le_of_ble_eq_true rfl, Nat.le_of_ble_eq_true rfl⟩ (fun r1 f1 H locs er1 hP hD hS => ?_)
  have er1 : r1 = (-2) := er1
  have hP : va_P (dC, dI) vwCl (wM gm am) H := hP
  have hD : va_D (fun q : Nat => s.heap.size ≤ q) (wM gm am) := hD
  refine lv_aload_n hx hb dL_law_1365 rfl (lv_at hl 2 rfl) ?_
  refine c_Vi (C := RX9) (As := []) (rest := [.int r1]) (wr := []) (n := 0) ⟨hx, hb, hml, hown, hT⟩ (k_X9_lets l dC dI gm am ) hK hP hD hS hA [63] rfl [0, 1] [] rfl rfl rfl rfl (by decide) rfl rfl mw_798 mw_799 mw_800 mw_19 mw_801 (by decide +kernel) ⟨Nat.le_of_ble_eq_true rfl, Nat.le_of_ble_eq_true rfl⟩ ⟨rfl, rfl⟩ rfl hl.1 (Nat.le_of_ble_eq_true rfl) rfl dL_law_1366 ⟨Nat.le_of_ble_eq_true rfl, Nat.le_of_ble_eq_true rfl⟩ (fun r2 f2 H locs er2 hP hD hS => ?_)
  have er2 : r2 = (-2) := er2
  exact lv_icmp_eq (tgt := 2148) hx hb dL_law_1369 (by decide) (fun _ => hend _ _ _ hS hl) (fun c9 => absurd (er1.trans er2.symm) c9)
