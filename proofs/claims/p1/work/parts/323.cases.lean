set_option maxRecDepth 100000 in
set_option maxHeartbeats 4000000 in
theorem lc_30 {p : Program} {l : Launch} {e : Env} {s : State} {m : MethodId} {below : List Frame} {meth : Method} {c : Code} {dC : Nat → ClassId} {dI : Nat → Nat → Nat} {b : Nat} {xs : Nat → Int32} {H : Heap} {locs : List Loc} {ls : Array Slot} (gx : Nat → Nat) (ax : Nat → ClassId) (gm : Nat → Nat) (am : Nat → ClassId) (C0 : lw_At p s m meth c b 6 xs) (hK : va_K (dC, dI) vwCl (tX ax ++ tM am) s) (hP : va_P (dC, dI) vwCl (wX gx ax ++ wM gm am) H) (hD : va_D (fun q : Nat => s.heap.size ≤ q) (wX gx ax ++ wM gm am)) (hS : va_S (fun q : Nat => s.heap.size ≤ q) s.heap H locs) (hl : lv_has ls 4 [(0, .ref b), (1, .ref (gx 0)), (2, .ref (gm 0)), (3, .int 0)]) (hend : (∀ (H : Heap) (locs : List Loc) (ls : Array Slot), va_S (fun q : Nat => s.heap.size ≤ q) s.heap H locs → lv_has ls 4 [(0, .ref b), (1, .ref (gx 0)), (2, .ref (gm 0)), (3, .int 0)] → LG p l e s m b below meth c H locs (F0 m 2148 ls []))) : LG p l e s m b below meth c H locs (F0 m 1054 ls []) := by
  obtain ⟨hx, hb, hr, hml, hown, hts, hX, hbl, hlocks, hgv⟩ := C0
  have hT : ∀ w ∈ TB, w.before #[Value.ref b] s = true := fun w h => hts w (TB_lw h)
  have hown : s.vm.findClass RL = some m.cls := hown
  have hA : ∀ q : Nat, s.heap.size ≤ q → (fun q : Nat => s.heap.size ≤ q) q := fun _ h => h
  have hbA : ¬ (fun q : Nat => s.heap.size ≤ q) b := Nat.not_le.mpr hbl
  refine lv_aload_n hx hb dL_law_1054 rfl (lv_at hl 1 rfl) ?_
  refine c_Vi (C := RX8) (As := []) (rest := []) (wr := (wM gm am)) (n := 0) ⟨hx, hb, hml, hown, hT⟩ (k_X8_lazy l dC dI gx ax ) hK hP hD hS hA [12] rfl [0, 16, 17] [74, 75, 76, 77, 78, 79, 80, 81, 82, 83, 84, 85, 86, 87] rfl rfl rfl rfl (by decide) rfl rfl mw_642 mw_643 mw_644 mw_69 mw_645 (by decide +kernel) ⟨Nat.le_of_ble_eq_true rfl, Nat.le_of_ble_eq_true rfl⟩ ⟨rfl, rfl⟩ rfl hl.1 (Nat.le_of_ble_eq_true rfl) rfl dL_law_1055 ⟨Nat.le_of_ble_eq_true rfl, Nat.le_of_ble_eq_true rfl⟩ (fun r1 f1 H locs er1 hP hD hS => ?_)
  have er1 : r1 = (-2) := er1
  have hP : va_P (dC, dI) vwCl (wM gm am) H := hP
  have hD : va_D (fun q : Nat => s.heap.size ≤ q) (wM gm am) := hD
  refine lv_aload_n hx hb dL_law_1058 rfl (lv_at hl 2 rfl) ?_
  refine c_Vi (C := RX9) (As := []) (rest := [.int r1]) (wr := []) (n := 0) ⟨hx, hb, hml, hown, hT⟩ (k_X9_lazy l dC dI gm am ) hK hP hD hS hA [63, 69, 71, 72, 70] rfl [0, 1, 7, 9, 10, 8] [] rfl rfl rfl rfl (by decide) rfl rfl mw_646 mw_647 mw_648 mw_19 mw_649 (by decide +kernel) ⟨Nat.le_of_ble_eq_true rfl, Nat.le_of_ble_eq_true rfl⟩ ⟨rfl, rfl⟩ rfl hl.1 (Nat.le_of_ble_eq_true rfl) rfl dL_law_1059 ⟨Nat.le_of_ble_eq_true rfl, Nat.le_of_ble_eq_true rfl⟩ (fun r2 f2 H locs er2 hP hD hS => ?_)
  have er2 : r2 = (-2) := er2
  exact lv_icmp_eq (tgt := 2148) hx hb dL_law_1062 (by decide) (fun _ => hend _ _ _ hS hl) (fun c9 => absurd (er1.trans er2.symm) c9)
set_option maxRecDepth 100000 in
set_option maxHeartbeats 4000000 in
theorem lc_31 {p : Program} {l : Launch} {e : Env} {s : State} {m : MethodId} {below : List Frame} {meth : Method} {c : Code} {dC : Nat → ClassId} {dI : Nat → Nat → Nat} {b : Nat} {xs : Nat → Int32} {H : Heap} {locs : List Loc} {ls : Array Slot} (gx : Nat → Nat) (ax : Nat → ClassId) (gm : Nat → Nat) (am : Nat → ClassId) (C0 : lw_At p s m meth c b 6 xs) (hK : va_K (dC, dI) vwCl (tX ax ++ tM am) s) (hP : va_P (dC, dI) vwCl (wX gx ax ++ wM gm am) H) (hD : va_D (fun q : Nat => s.heap.size ≤ q) (wX gx ax ++ wM gm am)) (hS : va_S (fun q : Nat => s.heap.size ≤ q) s.heap H locs) (hl : lv_has ls 4 [(0, .ref b), (1, .ref (gx 0)), (2, .ref (gm 0)), (3, .int 0)]) (hend : (∀ (H : Heap) (locs : List Loc) (ls : Array Slot), va_S (fun q : Nat => s.heap.size ≤ q) s.heap H locs → lv_has ls 4 [(0, .ref b), (1, .ref (gx 0)), (2, .ref (gm 0)), (3, .int 0)] → LG p l e s m b below meth c H locs (F0 m 2148 ls []))) : LG p l e s m b below meth c H locs (F0 m 1067 ls []) := by
  obtain ⟨hx, hb, hr, hml, hown, hts, hX, hbl, hlocks, hgv⟩ := C0
  have hT : ∀ w ∈ TB, w.before #[Value.ref b] s = true := fun w h => hts w (TB_lw h)
  have hown : s.vm.findClass RL = some m.cls := hown
  have hA : ∀ q : Nat, s.heap.size ≤ q → (fun q : Nat => s.heap.size ≤ q) q := fun _ h => h
  have hbA : ¬ (fun q : Nat => s.heap.size ≤ q) b := Nat.not_le.mpr hbl
  refine lv_aload_n hx hb dL_law_1067 rfl (lv_at hl 1 rfl) ?_
  refine c_Vi (C := RX8) (As := []) (rest := []) (wr := (wM gm am)) (n := 0) ⟨hx, hb, hml, hown, hT⟩ (k_X8_queue l dC dI gx ax ) hK hP hD hS hA [12] rfl [0, 16, 17] [74, 75, 76, 77, 78, 79, 80, 81, 82, 83, 84, 85, 86, 87] rfl rfl rfl rfl (by decide) rfl rfl mw_650 mw_651 mw_652 mw_69 mw_653 (by decide +kernel) ⟨Nat.le_of_ble_eq_true rfl, Nat.le_of_ble_eq_true rfl⟩ ⟨rfl, rfl⟩ rfl hl.1 (Nat.le_of_ble_eq_true rfl) rfl dL_law_1068 ⟨Nat.le_of_ble_eq_true rfl, Nat.le_of_ble_eq_true rfl⟩ (fun r1 f1 H locs er1 hP hD hS => ?_)
  have er1 : r1 = (-2) := er1
  have hP : va_P (dC, dI) vwCl (wM gm am) H := hP
  have hD : va_D (fun q : Nat => s.heap.size ≤ q) (wM gm am) := hD
  refine lv_aload_n hx hb dL_law_1071 rfl (lv_at hl 2 rfl) ?_
  refine c_Vi (C := RX9) (As := []) (rest := [.int r1]) (wr := []) (n := 0) ⟨hx, hb, hml, hown, hT⟩ (k_X9_queue l dC dI gm am ) hK hP hD hS hA [63, 69, 71, 72, 70] rfl [0, 1, 7, 9, 10, 8] [] rfl rfl rfl rfl (by decide) rfl rfl mw_654 mw_655 mw_656 mw_19 mw_657 (by decide +kernel) ⟨Nat.le_of_ble_eq_true rfl, Nat.le_of_ble_eq_true rfl⟩ ⟨rfl, rfl⟩ rfl hl.1 (Nat.le_of_ble_eq_true rfl) rfl dL_law_1072 ⟨Nat.le_of_ble_eq_true rfl, Nat.le_of_ble_eq_true rfl⟩ (fun r2 f2 H locs er2 hP hD hS => ?_)
  have er2 : r2 = (-2) := er2
  exact lv_icmp_eq (tgt := 2148) hx hb dL_law_1075 (by decide) (fun _ => hend _ _ _ hS hl) (fun c9 => absurd (er1.trans er2.symm) c9)
set_option maxRecDepth 100000 in
set_option maxHeartbeats 4000000 in
theorem lc_32 {p : Program} {l : Launch} {e : Env} {s : State} {m : MethodId} {below : List Frame} {meth : Method} {c : Code} {dC : Nat → ClassId} {dI : Nat → Nat → Nat} {b : Nat} {xs : Nat → Int32} {H : Heap} {locs : List Loc} {ls : Array Slot} (gx : Nat → Nat) (ax : Nat → ClassId) (gm : Nat → Nat) (am : Nat → ClassId) (C0 : lw_At p s m meth c b 6 xs) (hK : va_K (dC, dI) vwCl (tX ax ++ tM am) s) (hP : va_P (dC, dI) vwCl (wX gx ax ++ wM gm am) H) (hD : va_D (fun q : Nat => s.heap.size ≤ q) (wX gx ax ++ wM gm am)) (hS : va_S (fun q : Nat => s.heap.size ≤ q) s.heap H locs) (hl : lv_has ls 4 [(0, .ref b), (1, .ref (gx 0)), (2, .ref (gm 0)), (3, .int 0)]) (hend : (∀ (H : Heap) (locs : List Loc) (ls : Array Slot), va_S (fun q : Nat => s.heap.size ≤ q) s.heap H locs → lv_has ls 4 [(0, .ref b), (1, .ref (gx 0)), (2, .ref (gm 0)), (3, .int 0)] → LG p l e s m b below meth c H locs (F0 m 2148 ls []))) : LG p l e s m b below meth c H locs (F0 m 1080 ls []) := by
  obtain ⟨hx, hb, hr, hml, hown, hts, hX, hbl, hlocks, hgv⟩ := C0
  have hT : ∀ w ∈ TB, w.before #[Value.ref b] s = true := fun w h => hts w (TB_lw h)
  have hown : s.vm.findClass RL = some m.cls := hown
  have hA : ∀ q : Nat, s.heap.size ≤ q → (fun q : Nat => s.heap.size ≤ q) q := fun _ h => h
  have hbA : ¬ (fun q : Nat => s.heap.size ≤ q) b := Nat.not_le.mpr hbl
  refine lv_aload_n hx hb dL_law_1080 rfl (lv_at hl 1 rfl) ?_
  refine c_Vi (C := RX8) (As := []) (rest := []) (wr := (wM gm am)) (n := 0) ⟨hx, hb, hml, hown, hT⟩ (k_X8_kept l dC dI gx ax ) hK hP hD hS hA [12] rfl [0, 16, 17] [74, 75, 76, 77, 78, 79, 80, 81, 82, 83, 84, 85, 86, 87] rfl rfl rfl rfl (by decide) rfl rfl mw_658 mw_659 mw_660 mw_69 mw_661 (by decide +kernel) ⟨Nat.le_of_ble_eq_true rfl, Nat.le_of_ble_eq_true rfl⟩ ⟨rfl, rfl⟩ rfl hl.1 (Nat.le_of_ble_eq_true rfl) rfl dL_law_1081 ⟨Nat.le_of_ble_eq_true rfl, Nat.le_of_ble_eq_true rfl⟩ (fun r1 f1 H locs er1 hP hD hS => ?_)
  have er1 : r1 = (-2) := er1
  have hP : va_P (dC, dI) vwCl (wM gm am) H := hP
  have hD : va_D (fun q : Nat => s.heap.size ≤ q) (wM gm am) := hD
  refine lv_aload_n hx hb dL_law_1084 rfl (lv_at hl 2 rfl) ?_
  refine c_Vi (C := RX9) (As := []) (rest := [.int r1]) (wr := []) (n := 0) ⟨hx, hb, hml, hown, hT⟩ (k_X9_kept l dC dI gm am ) hK hP hD hS hA [63] rfl [0, 1] [] rfl rfl rfl rfl (by decide) rfl rfl mw_662 mw_663 mw_664 mw_19 mw_665 (by decide +kernel) ⟨Nat.le_of_ble_eq_true rfl, Nat.le_of_ble_eq_true rfl⟩ ⟨rfl, rfl⟩ rfl hl.1 (Nat.le_of_ble_eq_true rfl) rfl dL_law_1085 ⟨Nat.le_of_ble_eq_true rfl, Nat.le_of_ble_eq_true rfl⟩ (fun r2 f2 H locs er2 hP hD hS => ?_)
  have er2 : r2 = (-2) := er2
  exact lv_icmp_eq (tgt := 2148) hx hb dL_law_1088 (by decide) (fun _ => hend _ _ _ hS hl) (fun c9 => absurd (er1.trans er2.symm) c9)
set_option maxRecDepth 100000 in
set_option maxHeartbeats 4000000 in
theorem lc_33 {p : Program} {l : Launch} {e : Env} {s : State} {m : MethodId} {below : List Frame} {meth : Method} {c : Code} {dC : Nat → ClassId} {dI : Nat → Nat → Nat} {b : Nat} {xs : Nat → Int32} {H : Heap} {locs : List Loc} {ls : Array Slot} (gx : Nat → Nat) (ax : Nat → ClassId) (gm : Nat → Nat) (am : Nat → ClassId) (C0 : lw_At p s m meth c b 6 xs) (hK : va_K (dC, dI) vwCl (tX ax ++ tM am) s) (hP : va_P (dC, dI) vwCl (wX gx ax ++ wM gm am) H) (hD : va_D (fun q : Nat => s.heap.size ≤ q) (wX gx ax ++ wM gm am)) (hS : va_S (fun q : Nat => s.heap.size ≤ q) s.heap H locs) (hl : lv_has ls 4 [(0, .ref b), (1, .ref (gx 0)), (2, .ref (gm 0)), (3, .int 0)]) (hend : (∀ (H : Heap) (locs : List Loc) (ls : Array Slot), va_S (fun q : Nat => s.heap.size ≤ q) s.heap H locs → lv_has ls 4 [(0, .ref b), (1, .ref (gx 0)), (2, .ref (gm 0)), (3, .int 0)] → LG p l e s m b below meth c H locs (F0 m 2148 ls []))) : LG p l e s m b below meth c H locs (F0 m 1093 ls []) := by
  obtain ⟨hx, hb, hr, hml, hown, hts, hX, hbl, hlocks, hgv⟩ := C0
  have hT : ∀ w ∈ TB, w.before #[Value.ref b] s = true := fun w h => hts w (TB_lw h)
  have hown : s.vm.findClass RL = some m.cls := hown
  have hA : ∀ q : Nat, s.heap.size ≤ q → (fun q : Nat => s.heap.size ≤ q) q := fun _ h => h
  have hbA : ¬ (fun q : Nat => s.heap.size ≤ q) b := Nat.not_le.mpr hbl
  refine lv_aload_n hx hb dL_law_1093 rfl (lv_at hl 1 rfl) ?_
  refine lv_aload_n hx hb dL_law_1094 rfl (lv_at hl 0 rfl) ?_
  refine lv_iload_n hx hb dL_law_1095 rfl (lv_at hl 3 rfl) ?_
  refine lv_iconst (v := 1) hx hb dL_law_1096 (by decide) ?_
  refine lv_iadd hx hb dL_law_1097 ?_
  refine t_i 1 (by decide) ?_
  refine va_sld hx hb hX hbl hbA hS (by unfold vp_in; decide) dL_law_1098 ?_
  refine c_Vi (C := RX8) (As := [.int (xs (1 : Int32).toNatClampNeg)]) (rest := []) (wr := (wM gm am)) (n := 1) ⟨hx, hb, hml, hown, hT⟩ (k_X8_until l dC dI gx ax (xs (1 : Int32).toNatClampNeg)) hK hP hD hS hA [12] rfl [0, 16, 17] [74, 75, 76, 77, 78, 79, 80, 81, 82, 83, 84, 85, 86, 87] rfl rfl rfl rfl (by decide) rfl rfl mw_666 mw_667 mw_668 mw_69 mw_669 (by decide +kernel) ⟨Nat.le_of_ble_eq_true rfl, Nat.le_of_ble_eq_true rfl⟩ ⟨rfl, rfl⟩ rfl hl.1 (Nat.le_of_ble_eq_true rfl) rfl dL_law_1099 ⟨Nat.le_of_ble_eq_true rfl, Nat.le_of_ble_eq_true rfl⟩ (fun r1 f1 H locs er1 hP hD hS => ?_)
  have er1 : r1 = (-2) := er1
  have hP : va_P (dC, dI) vwCl (wM gm am) H := hP
  have hD : va_D (fun q : Nat => s.heap.size ≤ q) (wM gm am) := hD
  refine lv_aload_n hx hb dL_law_1102 rfl (lv_at hl 2 rfl) ?_
  refine lv_aload_n hx hb dL_law_1103 rfl (lv_at hl 0 rfl) ?_
  refine lv_iload_n hx hb dL_law_1104 rfl (lv_at hl 3 rfl) ?_
  refine lv_iconst (v := 1) hx hb dL_law_1105 (by decide) ?_
  refine lv_iadd hx hb dL_law_1106 ?_
  refine t_i 1 (by decide) ?_
  refine va_sld hx hb hX hbl hbA hS (by unfold vp_in; decide) dL_law_1107 ?_
  refine c_Vi (C := RX9) (As := [.int (xs (1 : Int32).toNatClampNeg)]) (rest := [.int r1]) (wr := []) (n := 1) ⟨hx, hb, hml, hown, hT⟩ (k_X9_until l dC dI gm am (xs (1 : Int32).toNatClampNeg)) hK hP hD hS hA [63, 69, 71, 72, 70] rfl [0, 1, 7, 9, 10, 8] [] rfl rfl rfl rfl (by decide) rfl rfl mw_670 mw_671 mw_672 mw_19 mw_673 (by decide +kernel) ⟨Nat.le_of_ble_eq_true rfl, Nat.le_of_ble_eq_true rfl⟩ ⟨rfl, rfl⟩ rfl hl.1 (Nat.le_of_ble_eq_true rfl) rfl dL_law_1108 ⟨Nat.le_of_ble_eq_true rfl, Nat.le_of_ble_eq_true rfl⟩ (fun r2 f2 H locs er2 hP hD hS => ?_)
  have er2 : r2 = (-2) := er2
  exact lv_icmp_eq (tgt := 2148) hx hb dL_law_1111 (by decide) (fun _ => hend _ _ _ hS hl) (fun c9 => absurd (er1.trans er2.symm) c9)
set_option maxRecDepth 100000 in
set_option maxHeartbeats 4000000 in
theorem lc_34 {p : Program} {l : Launch} {e : Env} {s : State} {m : MethodId} {below : List Frame} {meth : Method} {c : Code} {dC : Nat → ClassId} {dI : Nat → Nat → Nat} {b : Nat} {xs : Nat → Int32} {H : Heap} {locs : List Loc} {ls : Array Slot} (gx : Nat → Nat) (ax : Nat → ClassId) (gm : Nat → Nat) (am : Nat → ClassId) (C0 : lw_At p s m meth c b 6 xs) (hK : va_K (dC, dI) vwCl (tX ax ++ tM am) s) (hP : va_P (dC, dI) vwCl (wX gx ax ++ wM gm am) H) (hD : va_D (fun q : Nat => s.heap.size ≤ q) (wX gx ax ++ wM gm am)) (hS : va_S (fun q : Nat => s.heap.size ≤ q) s.heap H locs) (hl : lv_has ls 4 [(0, .ref b), (1, .ref (gx 0)), (2, .ref (gm 0)), (3, .int 0)]) (hend : (∀ (H : Heap) (locs : List Loc) (ls : Array Slot), va_S (fun q : Nat => s.heap.size ≤ q) s.heap H locs → lv_has ls 4 [(0, .ref b), (1, .ref (gx 0)), (2, .ref (gm 0)), (3, .int 0)] → LG p l e s m b below meth c H locs (F0 m 2148 ls []))) : LG p l e s m b below meth c H locs (F0 m 1116 ls []) := by
  obtain ⟨hx, hb, hr, hml, hown, hts, hX, hbl, hlocks, hgv⟩ := C0
  have hT : ∀ w ∈ TB, w.before #[Value.ref b] s = true := fun w h => hts w (TB_lw h)
  have hown : s.vm.findClass RL = some m.cls := hown
  have hA : ∀ q : Nat, s.heap.size ≤ q → (fun q : Nat => s.heap.size ≤ q) q := fun _ h => h
  have hbA : ¬ (fun q : Nat => s.heap.size ≤ q) b := Nat.not_le.mpr hbl
  refine lv_aload_n hx hb dL_law_1116 rfl (lv_at hl 1 rfl) ?_
  refine lv_aload_n hx hb dL_law_1117 rfl (lv_at hl 0 rfl) ?_
  refine lv_iload_n hx hb dL_law_1118 rfl (lv_at hl 3 rfl) ?_
  refine lv_iconst (v := 1) hx hb dL_law_1119 (by decide) ?_
  refine lv_iadd hx hb dL_law_1120 ?_
  refine t_i 1 (by decide) ?_
  refine va_sld hx hb hX hbl hbA hS (by unfold vp_in; decide) dL_law_1121 ?_
  refine c_Vi (C := RX8) (As := [.int (xs (1 : Int32).toNatClampNeg)]) (rest := []) (wr := (wM gm am)) (n := 1) ⟨hx, hb, hml, hown, hT⟩ (k_X8_with l dC dI gx ax (xs (1 : Int32).toNatClampNeg)) hK hP hD hS hA [12] rfl [0, 16, 17] [74, 75, 76, 77, 78, 79, 80, 81, 82, 83, 84, 85, 86, 87] rfl rfl rfl rfl (by decide) rfl rfl mw_674 mw_675 mw_676 mw_69 mw_677 (by decide +kernel) ⟨Nat.le_of_ble_eq_true rfl, Nat.le_of_ble_eq_true rfl⟩ ⟨rfl, rfl⟩ rfl hl.1 (Nat.le_of_ble_eq_true rfl) rfl dL_law_1122 ⟨Nat.le_of_ble_eq_true rfl, Nat.le_of_ble_eq_true rfl⟩ (fun r1 f1 H locs er1 hP hD hS => ?_)
  have er1 : r1 = (-2) := er1
  have hP : va_P (dC, dI) vwCl (wM gm am) H := hP
  have hD : va_D (fun q : Nat => s.heap.size ≤ q) (wM gm am) := hD
  refine lv_aload_n hx hb dL_law_1125 rfl (lv_at hl 2 rfl) ?_
  refine lv_aload_n hx hb dL_law_1126 rfl (lv_at hl 0 rfl) ?_
  refine lv_iload_n hx hb dL_law_1127 rfl (lv_at hl 3 rfl) ?_
  refine lv_iconst (v := 1) hx hb dL_law_1128 (by decide) ?_
  refine lv_iadd hx hb dL_law_1129 ?_
  refine t_i 1 (by decide) ?_
  refine va_sld hx hb hX hbl hbA hS (by unfold vp_in; decide) dL_law_1130 ?_
  refine c_Vi (C := RX9) (As := [.int (xs (1 : Int32).toNatClampNeg)]) (rest := [.int r1]) (wr := []) (n := 1) ⟨hx, hb, hml, hown, hT⟩ (k_X9_with l dC dI gm am (xs (1 : Int32).toNatClampNeg)) hK hP hD hS hA [63] rfl [0, 1] [] rfl rfl rfl rfl (by decide) rfl rfl mw_678 mw_679 mw_680 mw_19 mw_681 (by decide +kernel) ⟨Nat.le_of_ble_eq_true rfl, Nat.le_of_ble_eq_true rfl⟩ ⟨rfl, rfl⟩ rfl hl.1 (Nat.le_of_ble_eq_true rfl) rfl dL_law_1131 ⟨Nat.le_of_ble_eq_true rfl, Nat.le_of_ble_eq_true rfl⟩ (fun r2 f2 H locs er2 hP hD hS => ?_)
  have er2 : r2 = (-2) := er2
  exact lv_icmp_eq (tgt := 2148) hx hb dL_law_1134 (by decide) (fun _ => hend _ _ _ hS hl) (fun c9 => absurd (er1.trans er2.symm) c9)
set_option maxRecDepth 100000 in
set_option maxHeartbeats 4000000 in
theorem lc_35 {p : Program} {l : Launch} {e : Env} {s : State} {m : MethodId} {below : List Frame} {meth : Method} {c : Code} {dC : Nat → ClassId} {dI : Nat → Nat → Nat} {b : Nat} {xs : Nat → Int32} {H : Heap} {locs : List Loc} {ls : Array Slot} (gx : Nat → Nat) (ax : Nat → ClassId) (gm : Nat → Nat) (am : Nat → ClassId) (C0 : lw_At p s m meth c b 6 xs) (hK : va_K (dC, dI) vwCl (tX ax ++ tM am) s) (hP : va_P (dC, dI) vwCl (wX gx ax ++ wM gm am) H) (hD : va_D (fun q : Nat => s.heap.size ≤ q) (wX gx ax ++ wM gm am)) (hS : va_S (fun q : Nat => s.heap.size ≤ q) s.heap H locs) (hl : lv_has ls 4 [(0, .ref b), (1, .ref (gx 0)), (2, .ref (gm 0)), (3, .int 0)]) (hend : (∀ (H : Heap) (locs : List Loc) (ls : Array Slot), va_S (fun q : Nat => s.heap.size ≤ q) s.heap H locs → lv_has ls 4 [(0, .ref b), (1, .ref (gx 0)), (2, .ref (gm 0)), (3, .int 0)] → LG p l e s m b below meth c H locs (F0 m 2148 ls []))) : LG p l e s m b below meth c H locs (F0 m 1139 ls []) := by
  obtain ⟨hx, hb, hr, hml, hown, hts, hX, hbl, hlocks, hgv⟩ := C0
  have hT : ∀ w ∈ TB, w.before #[Value.ref b] s = true := fun w h => hts w (TB_lw h)
  have hown : s.vm.findClass RL = some m.cls := hown
  have hA : ∀ q : Nat, s.heap.size ≤ q → (fun q : Nat => s.heap.size ≤ q) q := fun _ h => h
  have hbA : ¬ (fun q : Nat => s.heap.size ≤ q) b := Nat.not_le.mpr hbl
  refine lv_aload_n hx hb dL_law_1139 rfl (lv_at hl 1 rfl) ?_
  refine lv_aload_n hx hb dL_law_1140 rfl (lv_at hl 0 rfl) ?_
  refine lv_iload_n hx hb dL_law_1141 rfl (lv_at hl 3 rfl) ?_
  refine lv_iconst (v := 1) hx hb dL_law_1142 (by decide) ?_
  refine lv_iadd hx hb dL_law_1143 ?_
  refine t_i 1 (by decide) ?_
  refine va_sld hx hb hX hbl hbA hS (by unfold vp_in; decide) dL_law_1144 ?_
  refine c_Vi (C := RX8) (As := [.int (xs (1 : Int32).toNatClampNeg)]) (rest := []) (wr := (wM gm am)) (n := 1) ⟨hx, hb, hml, hown, hT⟩ (k_X8_ease l dC dI gx ax (xs (1 : Int32).toNatClampNeg)) hK hP hD hS hA [12] rfl [0, 16, 17] [74, 75, 76, 77, 78, 79, 80, 81, 82, 83, 84, 85, 86, 87] rfl rfl rfl rfl (by decide) rfl rfl mw_682 mw_683 mw_684 mw_69 mw_685 (by decide +kernel) ⟨Nat.le_of_ble_eq_true rfl, Nat.le_of_ble_eq_true rfl⟩ ⟨rfl, rfl⟩ rfl hl.1 (Nat.le_of_ble_eq_true rfl) rfl dL_law_1145 ⟨Nat.le_of_ble_eq_true rfl, Nat.le_of_ble_eq_true rfl⟩ (fun r1 f1 H locs er1 hP hD hS => ?_)
  have er1 : r1 = (-2) := er1
  have hP : va_P (dC, dI) vwCl (wM gm am) H := hP
  have hD : va_D (fun q : Nat => s.heap.size ≤ q) (wM gm am) := hD
  refine lv_aload_n hx hb dL_law_1148 rfl (lv_at hl 2 rfl) ?_
  refine lv_aload_n hx hb dL_law_1149 rfl (lv_at hl 0 rfl) ?_
  refine lv_iload_n hx hb dL_law_1150 rfl (lv_at hl 3 rfl) ?_
  refine lv_iconst (v := 1) hx hb dL_law_1151 (by decide) ?_
  refine lv_iadd hx hb dL_law_1152 ?_
  refine t_i 1 (by decide) ?_
  refine va_sld hx hb hX hbl hbA hS (by unfold vp_in; decide) dL_law_1153 ?_
  refine c_Vi (C := RX9) (As := [.int (xs (1 : Int32).toNatClampNeg)]) (rest := [.int r1]) (wr := []) (n := 1) ⟨hx, hb, hml, hown, hT⟩ (k_X9_ease l dC dI gm am (xs (1 : Int32).toNatClampNeg)) hK hP hD hS hA [63, 69, 71, 72, 70] rfl [0, 1, 7, 9, 10, 8] [] rfl rfl rfl rfl (by decide) rfl rfl mw_686 mw_687 mw_688 mw_19 mw_689 (by decide +kernel) ⟨Nat.le_of_ble_eq_true rfl, Nat.le_of_ble_eq_true rfl⟩ ⟨rfl, rfl⟩ rfl hl.1 (Nat.le_of_ble_eq_true rfl) rfl dL_law_1154 ⟨Nat.le_of_ble_eq_true rfl, Nat.le_of_ble_eq_true rfl⟩ (fun r2 f2 H locs er2 hP hD hS => ?_)
  have er2 : r2 = (-2) := er2
  exact lv_icmp_eq (tgt := 2148) hx hb dL_law_1157 (by decide) (fun _ => hend _ _ _ hS hl) (fun c9 => absurd (er1.trans er2.symm) c9)
set_option maxRecDepth 100000 in
set_option maxHeartbeats 4000000 in
theorem lc_36 {p : Program} {l : Launch} {e : Env} {s : State} {m : MethodId} {below : List Frame} {meth : Method} {c : Code} {dC : Nat → ClassId} {dI : Nat → Nat → Nat} {b : Nat} {xs : Nat → Int32} {H : Heap} {locs : List Loc} {ls : Array Slot} (gx : Nat → Nat) (ax : Nat → ClassId) (gm : Nat → Nat) (am : Nat → ClassId) (C0 : lw_At p s m meth c b 6 xs) (hK : va_K (dC, dI) vwCl (tX ax ++ tM am) s) (hP : va_P (dC, dI) vwCl (wX gx ax ++ wM gm am) H) (hD : va_D (fun q : Nat => s.heap.size ≤ q) (wX gx ax ++ wM gm am)) (hS : va_S (fun q : Nat => s.heap.size ≤ q) s.heap H locs) (hl : lv_has ls 4 [(0, .ref b), (1, .ref (gx 0)), (2, .ref (gm 0)), (3, .int 0)]) (hend : (∀ (H : Heap) (locs : List Loc) (ls : Array Slot), va_S (fun q : Nat => s.heap.size ≤ q) s.heap H locs → lv_has ls 4 [(0, .ref b), (1, .ref (gx 0)), (2, .ref (gm 0)), (3, .int 0)] → LG p l e s m b below meth c H locs (F0 m 2148 ls []))) : LG p l e s m b below meth c H locs (F0 m 1162 ls []) := by
  obtain ⟨hx, hb, hr, hml, hown, hts, hX, hbl, hlocks, hgv⟩ := C0
  have hT : ∀ w ∈ TB, w.before #[Value.ref b] s = true := fun w h => hts w (TB_lw h)
  have hown : s.vm.findClass RL = some m.cls := hown
  have hA : ∀ q : Nat, s.heap.size ≤ q → (fun q : Nat => s.heap.size ≤ q) q := fun _ h => h
  have hbA : ¬ (fun q : Nat => s.heap.size ≤ q) b := Nat.not_le.mpr hbl
  refine lv_aload_n hx hb dL_law_1162 rfl (lv_at hl 1 rfl) ?_
  refine lv_aload_n hx hb dL_law_1163 rfl (lv_at hl 0 rfl) ?_
  refine lv_iload_n hx hb dL_law_1164 rfl (lv_at hl 3 rfl) ?_
  refine lv_iconst (v := 1) hx hb dL_law_1165 (by decide) ?_
  refine lv_iadd hx hb dL_law_1166 ?_
  refine t_i 1 (by decide) ?_
  refine va_sld hx hb hX hbl hbA hS (by unfold vp_in; decide) dL_law_1167 ?_
  refine c_Vi (C := RX8) (As := [.int (xs (1 : Int32).toNatClampNeg)]) (rest := []) (wr := (wM gm am)) (n := 1) ⟨hx, hb, hml, hown, hT⟩ (k_X8_without l dC dI gx ax (xs (1 : Int32).toNatClampNeg)) hK hP hD hS hA [12] rfl [0, 16, 17] [74, 75, 76, 77, 78, 79, 80, 81, 82, 83, 84, 85, 86, 87] rfl rfl rfl rfl (by decide) rfl rfl mw_690 mw_691 mw_692 mw_69 mw_693 (by decide +kernel) ⟨Nat.le_of_ble_eq_true rfl, Nat.le_of_ble_eq_true rfl⟩ ⟨rfl, rfl⟩ rfl hl.1 (Nat.le_of_ble_eq_true rfl) rfl dL_law_1168 ⟨Nat.le_of_ble_eq_true rfl, Nat.le_of_ble_eq_true rfl⟩ (fun r1 f1 H locs er1 hP hD hS => ?_)
  have er1 : r1 = (-2) := er1
  have hP : va_P (dC, dI) vwCl (wM gm am) H := hP
  have hD : va_D (fun q : Nat => s.heap.size ≤ q) (wM gm am) := hD
  refine lv_aload_n hx hb dL_law_1171 rfl (lv_at hl 2 rfl) ?_
  refine lv_aload_n hx hb dL_law_1172 rfl (lv_at hl 0 rfl) ?_
  refine lv_iload_n hx hb dL_law_1173 rfl (lv_at hl 3 rfl) ?_
  refine lv_iconst (v := 1) hx hb dL_law_1174 (by decide) ?_
  refine lv_iadd hx hb dL_law_1175 ?_
  refine t_i 1 (by decide) ?_
  refine va_sld hx hb hX hbl hbA hS (by unfold vp_in; decide) dL_law_1176 ?_
  refine c_Vi (C := RX9) (As := [.int (xs (1 : Int32).toNatClampNeg)]) (rest := [.int r1]) (wr := []) (n := 1) ⟨hx, hb, hml, hown, hT⟩ (k_X9_without l dC dI gm am (xs (1 : Int32).toNatClampNeg)) hK hP hD hS hA [63] rfl [0, 1] [] rfl rfl rfl rfl (by decide) rfl rfl mw_694 mw_695 mw_696 mw_19 mw_697 (by decide +kernel) ⟨Nat.le_of_ble_eq_true rfl, Nat.le_of_ble_eq_true rfl⟩ ⟨rfl, rfl⟩ rfl hl.1 (Nat.le_of_ble_eq_true rfl) rfl dL_law_1177 ⟨Nat.le_of_ble_eq_true rfl, Nat.le_of_ble_eq_true rfl⟩ (fun r2 f2 H locs er2 hP hD hS => ?_)
  have er2 : r2 = (-2) := er2
  exact lv_icmp_eq (tgt := 2148) hx hb dL_law_1180 (by decide) (fun _ => hend _ _ _ hS hl) (fun c9 => absurd (er1.trans er2.symm) c9)
set_option maxRecDepth 100000 in
set_option maxHeartbeats 4000000 in
theorem lc_37 {p : Program} {l : Launch} {e : Env} {s : State} {m : MethodId} {below : List Frame} {meth : Method} {c : Code} {dC : Nat → ClassId} {dI : Nat → Nat → Nat} {b : Nat} {xs : Nat → Int32} {H : Heap} {locs : List Loc} {ls : Array Slot} (gx : Nat → Nat) (ax : Nat → ClassId) (gm : Nat → Nat) (am : Nat → ClassId) (C0 : lw_At p s m meth c b 6 xs) (hK : va_K (dC, dI) vwCl (tX ax ++ tM am) s) (hP : va_P (dC, dI) vwCl (wX gx ax ++ wM gm am) H) (hD : va_D (fun q : Nat => s.heap.size ≤ q) (wX gx ax ++ wM gm am)) (hS : va_S (fun q : Nat => s.heap.size ≤ q) s.heap H locs) (hl : lv_has ls 4 [(0, .ref b), (1, .ref (gx 0)), (2, .ref (gm 0)), (3, .int 0)]) (hend : (∀ (H : Heap) (locs : List Loc) (ls : Array Slot), va_S (fun q : Nat => s.heap.size ≤ q) s.heap H locs → lv_has ls 4 [(0, .ref b), (1, .ref (gx 0)), (2, .ref (gm 0)), (3, .int 0)] → LG p l e s m b below meth c H locs (F0 m 2148 ls []))) : LG p l e s m b below meth c H locs (F0 m 1185 ls []) := by
  obtain ⟨hx, hb, hr, hml, hown, hts, hX, hbl, hlocks, hgv⟩ := C0
  have hT : ∀ w ∈ TB, w.before #[Value.ref b] s = true := fun w h => hts w (TB_lw h)
  have hown : s.vm.findClass RL = some m.cls := hown
  have hA : ∀ q : Nat, s.heap.size ≤ q → (fun q : Nat => s.heap.size ≤ q) q := fun _ h => h
  have hbA : ¬ (fun q : Nat => s.heap.size ≤ q) b := Nat.not_le.mpr hbl
  refine lv_aload_n hx hb dL_law_1185 rfl (lv_at hl 1 rfl) ?_
  refine c_Vi (C := RX8) (As := []) (rest := []) (wr := (wM gm am)) (n := 0) ⟨hx, hb, hml, hown, hT⟩ (k_X8_settles l dC dI gx ax ) hK hP hD hS hA [12] rfl [0, 16, 17] [74, 75, 76, 77, 78, 79, 80, 81, 82, 83, 84, 85, 86, 87] rfl rfl rfl rfl (by decide) rfl rfl mw_698 mw_699 mw_700 mw_69 mw_701 (by decide +kernel) ⟨Nat.le_of_ble_eq_true rfl, Nat.le_of_ble_eq_true rfl⟩ ⟨rfl, rfl⟩ rfl hl.1 (Nat.le_of_ble_eq_true rfl) rfl dL_law_1186 ⟨Nat.le_of_ble_eq_true rfl, Nat.le_of_ble_eq_true rfl⟩ (fun r1 f1 H locs er1 hP hD hS => ?_)
  have er1 : r1 = (-2) := er1
  have hP : va_P (dC, dI) vwCl (wM gm am) H := hP
  have hD : va_D (fun q : Nat => s.heap.size ≤ q) (wM gm am) := hD
  refine lv_aload_n hx hb dL_law_1189 rfl (lv_at hl 2 rfl) ?_
  refine c_Vi (C := RX9) (As := []) (rest := [.int r1]) (wr := []) (n := 0) ⟨hx, hb, hml, hown, hT⟩ (k_X9_settles l dC dI gm am ) hK hP hD hS hA [63] rfl [0, 1] [] rfl rfl rfl rfl (by decide) rfl rfl mw_702 mw_703 mw_704 mw_19 mw_705 (by decide +kernel) ⟨Nat.le_of_ble_eq_true rfl, Nat.le_of_ble_eq_true rfl⟩ ⟨rfl, rfl⟩ rfl hl.1 (Nat.le_of_ble_eq_true rfl) rfl dL_law_1190 ⟨Nat.le_of_ble_eq_true rfl, Nat.le_of_ble_eq_true rfl⟩ (fun r2 f2 H locs er2 hP hD hS => ?_)
  have er2 : r2 = (-2) := er2
  exact lv_icmp_eq (tgt := 2148) hx hb dL_law_1193 (by decide) (fun _ => hend _ _ _ hS hl) (fun c9 => absurd (er1.trans er2.symm) c9)
set_option maxRecDepth 100000 in
set_option maxHeartbeats 4000000 in
theorem lc_38 {p : Program} {l : Launch} {e : Env} {s : State} {m : MethodId} {below : List Frame} {meth : Method} {c : Code} {dC : Nat → ClassId} {dI : Nat → Nat → Nat} {b : Nat} {xs : Nat → Int32} {H : Heap} {locs : List Loc} {ls : Array Slot} (gx : Nat → Nat) (ax : Nat → ClassId) (gm : Nat → Nat) (am : Nat → ClassId) (C0 : lw_At p s m meth c b 6 xs) (hK : va_K (dC, dI) vwCl (tX ax ++ tM am) s) (hP : va_P (dC, dI) vwCl (wX gx ax ++ wM gm am) H) (hD : va_D (fun q : Nat => s.heap.size ≤ q) (wX gx ax ++ wM gm am)) (hS : va_S (fun q : Nat => s.heap.size ≤ q) s.heap H locs) (hl : lv_has ls 4 [(0, .ref b), (1, .ref (gx 0)), (2, .ref (gm 0)), (3, .int 0)]) (hend : (∀ (H : Heap) (locs : List Loc) (ls : Array Slot), va_S (fun q : Nat => s.heap.size ≤ q) s.heap H locs → lv_has ls 4 [(0, .ref b), (1, .ref (gx 0)), (2, .ref (gm 0)), (3, .int 0)] → LG p l e s m b below meth c H locs (F0 m 2148 ls []))) : LG p l e s m b below meth c H locs (F0 m 1198 ls []) := by
  obtain ⟨hx, hb, hr, hml, hown, hts, hX, hbl, hlocks, hgv⟩ := C0
  have hT : ∀ w ∈ TB, w.before #[Value.ref b] s = true := fun w h => hts w (TB_lw h)
  have hown : s.vm.findClass RL = some m.cls := hown
  have hA : ∀ q : Nat, s.heap.size ≤ q → (fun q : Nat => s.heap.size ≤ q) q := fun _ h => h
  have hbA : ¬ (fun q : Nat => s.heap.size ≤ q) b := Nat.not_le.mpr hbl
  refine lv_aload_n hx hb dL_law_1198 rfl (lv_at hl 1 rfl) ?_
  refine c_Vi (C := RX8) (As := []) (rest := []) (wr := (wM gm am)) (n := 0) ⟨hx, hb, hml, hown, hT⟩ (k_X8_round l dC dI gx ax ) hK hP hD hS hA [12] rfl [0, 16, 17] [74, 75, 76, 77, 78, 79, 80, 81, 82, 83, 84, 85, 86, 87] rfl rfl rfl rfl (by decide) rfl rfl mw_706 mw_707 mw_708 mw_69 mw_709 (by decide +kernel) ⟨Nat.le_of_ble_eq_true rfl, Nat.le_of_ble_eq_true rfl⟩ ⟨rfl, rfl⟩ rfl hl.1 (Nat.le_of_ble_eq_true rfl) rfl dL_law_1199 ⟨Nat.le_of_ble_eq_true rfl, Nat.le_of_ble_eq_true rfl⟩ (fun r1 f1 H locs er1 hP hD hS => ?_)
  have er1 : r1 = (-2) := er1
  have hP : va_P (dC, dI) vwCl (wM gm am) H := hP
  have hD : va_D (fun q : Nat => s.heap.size ≤ q) (wM gm am) := hD
  refine lv_aload_n hx hb dL_law_1202 rfl (lv_at hl 2 rfl) ?_
  refine c_Vi (C := RX9) (As := []) (rest := [.int r1]) (wr := []) (n := 0) ⟨hx, hb, hml, hown, hT⟩ (k_X9_round l dC dI gm am ) hK hP hD hS hA [63] rfl [0, 1] [] rfl rfl rfl rfl (by decide) rfl rfl mw_710 mw_711 mw_712 mw_19 mw_713 (by decide +kernel) ⟨Nat.le_of_ble_eq_true rfl, Nat.le_of_ble_eq_true rfl⟩ ⟨rfl, rfl⟩ rfl hl.1 (Nat.le_of_ble_eq_true rfl) rfl dL_law_1203 ⟨Nat.le_of_ble_eq_true rfl, Nat.le_of_ble_eq_true rfl⟩ (fun r2 f2 H locs er2 hP hD hS => ?_)
  have er2 : r2 = (-2) := er2
  exact lv_icmp_eq (tgt := 2148) hx hb dL_law_1206 (by decide) (fun _ => hend _ _ _ hS hl) (fun c9 => absurd (er1.trans er2.symm) c9)
set_option maxRecDepth 100000 in
set_option maxHeartbeats 4000000 in
theorem lc_39 {p : Program} {l : Launch} {e : Env} {s : State} {m : MethodId} {below : List Frame} {meth : Method} {c : Code} {dC : Nat → ClassId} {dI : Nat → Nat → Nat} {b : Nat} {xs : Nat → Int32} {H : Heap} {locs : List Loc} {ls : Array Slot} (gx : Nat → Nat) (ax : Nat → ClassId) (gm : Nat → Nat) (am : Nat → ClassId) (C0 : lw_At p s m meth c b 6 xs) (hK : va_K (dC, dI) vwCl (tX ax ++ tM am) s) (hP : va_P (dC, dI) vwCl (wX gx ax ++ wM gm am) H) (hD : va_D (fun q : Nat => s.heap.size ≤ q) (wX gx ax ++ wM gm am)) (hS : va_S (fun q : Nat => s.heap.size ≤ q) s.heap H locs) (hl : lv_has ls 4 [(0, .ref b), (1, .ref (gx 0)), (2, .ref (gm 0)), (3, .int 0)]) (hend : (∀ (H : Heap) (locs : List Loc) (ls : Array Slot), va_S (fun q : Nat => s.heap.size ≤ q) s.heap H locs → lv_has ls 4 [(0, .ref b), (1, .ref (gx 0)), (2, .ref (gm 0)), (3, .int 0)] → LG p l e s m b below meth c H locs (F0 m 2148 ls []))) : LG p l e s m b below meth c H locs (F0 m 1211 ls []) := by
  obtain ⟨hx, hb, hr, hml, hown, hts, hX, hbl, hlocks, hgv⟩ := C0
  have hT : ∀ w ∈ TB, w.before #[Value.ref b] s = true := fun w h => hts w (TB_lw h)
  have hown : s.vm.findClass RL = some m.cls := hown
  have hA : ∀ q : Nat, s.heap.size ≤ q → (fun q : Nat => s.heap.size ≤ q) q := fun _ h => h
  have hbA : ¬ (fun q : Nat => s.heap.size ≤ q) b := Nat.not_le.mpr hbl
  refine lv_aload_n hx hb dL_law_1211 rfl (lv_at hl 1 rfl) ?_
  refine lv_aload_n hx hb dL_law_1212 rfl (lv_at hl 0 rfl) ?_
  refine lv_iload_n hx hb dL_law_1213 rfl (lv_at hl 3 rfl) ?_
  refine lv_iconst (v := 1) hx hb dL_law_1214 (by decide) ?_
  refine lv_iadd hx hb dL_law_1215 ?_
  refine t_i 1 (by decide) ?_
  refine va_sld hx hb hX hbl hbA hS (by unfold vp_in; decide) dL_law_1216 ?_
  refine c_Vi (C := RX8) (As := [.int (xs (1 : Int32).toNatClampNeg)]) (rest := []) (wr := (wM gm am)) (n := 1) ⟨hx, hb, hml, hown, hT⟩ (k_X8_rate l dC dI gx ax (xs (1 : Int32).toNatClampNeg)) hK hP hD hS hA [12] rfl [0, 16, 17] [74, 75, 76, 77, 78, 79, 80, 81, 82, 83, 84, 85, 86, 87] rfl rfl rfl rfl (by decide) rfl rfl mw_714 mw_715 mw_716 mw_69 mw_717 (by decide +kernel) ⟨Nat.le_of_ble_eq_true rfl, Nat.le_of_ble_eq_true rfl⟩ ⟨rfl, rfl⟩ rfl hl.1 (Nat.le_of_ble_eq_true rfl) rfl dL_law_1217 ⟨Nat.le_of_ble_eq_true rfl, Nat.le_of_ble_eq_true rfl⟩ (fun r1 f1 H locs er1 hP hD hS => ?_)
  have er1 : r1 = (-2) := er1
  have hP : va_P (dC, dI) vwCl (wM gm am) H := hP
  have hD : va_D (fun q : Nat => s.heap.size ≤ q) (wM gm am) := hD
  refine lv_aload_n hx hb dL_law_1220 rfl (lv_at hl 2 rfl) ?_
  refine lv_aload_n hx hb dL_law_1221 rfl (lv_at hl 0 rfl) ?_
  refine lv_iload_n hx hb dL_law_1222 rfl (lv_at hl 3 rfl) ?_
  refine lv_iconst (v := 1) hx hb dL_law_1223 (by decide) ?_
  refine lv_iadd hx hb dL_law_1224 ?_
  refine t_i 1 (by decide) ?_
  refine va_sld hx hb hX hbl hbA hS (by unfold vp_in; decide) dL_law_1225 ?_
  refine c_Vi (C := RX9) (As := [.int (xs (1 : Int32).toNatClampNeg)]) (rest := [.int r1]) (wr := []) (n := 1) ⟨hx, hb, hml, hown, hT⟩ (k_X9_rate l dC dI gm am (xs (1 : Int32).toNatClampNeg)) hK hP hD hS hA [63] rfl [0, 1] [] rfl rfl rfl rfl (by decide) rfl rfl mw_718 mw_719 mw_720 mw_19 mw_721 (by decide +kernel) ⟨Nat.le_of_ble_eq_true rfl, Nat.le_of_ble_eq_true rfl⟩ ⟨rfl, rfl⟩ rfl hl.1 (Nat.le_of_ble_eq_true rfl) rfl dL_law_1226 ⟨Nat.le_of_ble_eq_true rfl, Nat.le_of_ble_eq_true rfl⟩ (fun r2 f2 H locs er2 hP hD hS => ?_)
  have er2 : r2 = (-2) := er2
  exact lv_icmp_eq (tgt := 2148) hx hb dL_law_1229 (by decide) (fun _ => hend _ _ _ hS hl) (fun c9 => absurd (er1.trans er2.symm) c9)
