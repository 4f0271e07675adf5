theorem NW_law : ∀ q ∈ nestL, Cond.methodLinkNest q.1 q.2.1 q.2.2 RX8 ∈ lw_tbl := by decide +kernel
theorem AO_law : Cond.arrayOver (.object RX1) ∈ lw_tbl := List.mem_append_right _ (List.mem_of_getElem? (i := 131) (by decide +kernel))
set_option maxRecDepth 100000 in
set_option maxHeartbeats 4000000 in
theorem law_end {p : Program} {l : Launch} {e : Env} {s : State} {m : MethodId} {below : List Frame} {meth : Method} {c : Code} {b L : Nat} {xs : Nat → Int32} {H : Heap} {locs : List Loc} {ls : Array Slot} (C0 : lw_At p s m meth c b L xs) (hS : va_S (fun q : Nat => s.heap.size ≤ q) s.heap H locs) : LG p l e s m b below meth c H locs (F0 m 2154 ls []) := by
  obtain ⟨hx, hb, hr, hml, hown, hts, hX, hbl, hlocks, hgv⟩ := C0
  refine lv_iconst (v := 1) hx hb dL_law_2154 (by decide) ?_
  refine va_forget (fun q hq => hS.2.2 q hq) ?_
  refine W.widen (k := 600000) (n := 7302250) (Nat.le_of_ble_eq_true rfl) (Nat.le_of_ble_eq_true rfl) ?_
  exact lw_ret hx hb hr hlocks dL_law_2155
set_option maxRecDepth 100000 in
set_option maxHeartbeats 4000000 in
theorem law_next {p : Program} {l : Launch} {e : Env} {s : State} {m : MethodId} {below : List Frame} {meth : Method} {c : Code} {b : Nat} {xs : Nat → Int32} {gx gm : Nat → Nat} (C0 : lw_At p s m meth c b 6 xs) : (∀ (H : Heap) (locs : List Loc) (ls : Array Slot), va_S (fun q : Nat => s.heap.size ≤ q) s.heap H locs → lv_has ls 4 [(0, .ref b), (1, .ref (gx 0)), (2, .ref (gm 0)), (3, .int 0)] → LG p l e s m b below meth c H locs (F0 m 2148 ls [])) := by
  intro H locs ls hS hl
  obtain ⟨hx, hb, hr, hml, hown, hts, hX, hbl, hlocks, hgv⟩ := id C0
  have hbA : ¬ (fun q : Nat => s.heap.size ≤ q) b := Nat.not_le.mpr hbl
  refine lv_iinc (v := 6) (lv' := [(3, .int 6), (0, .ref b), (1, .ref (gx 0)), (2, .ref (gm 0))]) hx hb dL_law_2148 hl (k := 3) rfl (by decide) (by decide) rfl (fun ls hl => ?_)
  refine lv_goto (tgt := 18) hx hb dL_law_2151 (by decide) ?_
  refine lv_iload_n hx hb dL_law_18 rfl (lv_at hl 0 rfl) ?_
  refine lv_aload_n hx hb dL_law_19 rfl (lv_at hl 1 rfl) ?_
  refine va_slen hx hb hX hbl hbA hS dL_law_20 ?_
  refine lv_bipush (v := 6) hx hb dL_law_21 (by decide) ?_
  refine lv_isub hx hb dL_law_23 ?_
  refine t_i 0 (by decide) ?_
  refine lv_icmp_gt (tgt := 2154) hx hb dL_law_24 (by decide) (fun _ => ?_) (fun c9 => absurd (by decide) c9)
  exact law_end C0 hS
set_option maxRecDepth 100000 in
set_option maxHeartbeats 8000000 in
theorem law_sw {p : Program} {l : Launch} {e : Env} {s : State} {m : MethodId} {below : List Frame} {meth : Method} {c : Code} {dC : Nat → ClassId} {dI : Nat → Nat → Nat} {b : Nat} {xs : Nat → Int32} {H : Heap} {locs : List Loc} {ls : Array Slot} (gx : Nat → Nat) (ax : Nat → ClassId) (gm : Nat → Nat) (am : Nat → ClassId) (C0 : lw_At p s m meth c b 6 xs) (hK : va_K (dC, dI) vwCl (tX ax ++ tM am) s) (hP : va_P (dC, dI) vwCl (wX gx ax ++ wM gm am) H) (hD : va_D (fun q : Nat => s.heap.size ≤ q) (wX gx ax ++ wM gm am)) (hS : va_S (fun q : Nat => s.heap.size ≤ q) s.heap H locs) (hl : lv_has ls 4 [(0, .ref b), (1, .ref (gx 0)), (2, .ref (gm 0)), (3, .int 0)]) (j : Nat) (hj : j < 128) : LG p l e s m b below meth c H locs (F0 m 33 ls [.int (nI j)]) := by
  have hend := law_next (l := l) (e := e) (below := below) (gx := gx) (gm := gm) C0
  obtain ⟨hx, hb, hr, hml, hown, hts, hX, hbl, hlocks, hgv⟩ := id C0
  match j, hj with
  | 0, _ => exact lv_tableIn (off := 311) (tgt := 344) hx hb dL_law_33 (by decide) (by decide) (by decide) (by decide) (lc_0 gx ax gm am C0 hK hP hD hS hl hend)
  | 1, _ => exact lv_tableIn (off := 374) (tgt := 407) hx hb dL_law_33 (by decide) (by decide) (by decide) (by decide) (lc_1 gx ax gm am C0 hK hP hD hS hl hend)
  | 2, _ => exact lv_tableIn (off := 397) (tgt := 430) hx hb dL_law_33 (by decide) (by decide) (by decide) (by decide) (lc_2 gx ax gm am C0 hK hP hD hS hl hend)
  | 3, _ => exact lv_tableIn (off := 410) (tgt := 443) hx hb dL_law_33 (by decide) (by decide) (by decide) (by decide) (lc_3 gx ax gm am C0 hK hP hD hS hl hend)
  | 4, _ => exact lv_tableIn (off := 433) (tgt := 466) hx hb dL_law_33 (by decide) (by decide) (by decide) (by decide) (lc_4 gx ax gm am C0 hK hP hD hS hl hend)
  | 5, _ => exact lv_tableIn (off := 466) (tgt := 499) hx hb dL_law_33 (by decide) (by decide) (by decide) (by decide) (lc_5 gx ax gm am C0 hK hP hD hS hl hend)
  | 6, _ => exact lv_tableIn (off := 499) (tgt := 532) hx hb dL_law_33 (by decide) (by decide) (by decide) (by decide) (lc_6 gx ax gm am C0 hK hP hD hS hl hend)
  | 7, _ => exact lv_tableIn (off := 522) (tgt := 555) hx hb dL_law_33 (by decide) (by decide) (by decide) (by decide) (lc_7 gx ax gm am C0 hK hP hD hS hl hend)
  | 8, _ => exact lv_tableIn (off := 555) (tgt := 588) hx hb dL_law_33 (by decide) (by decide) (by decide) (by decide) (lc_8 gx ax gm am C0 hK hP hD hS hl hend)
  | 9, _ => exact lv_tableIn (off := 588) (tgt := 621) hx hb dL_law_33 (by decide) (by decide) (by decide) (by decide) (lc_9 gx ax gm am C0 hK hP hD hS hl hend)
  | 10, _ => exact lv_tableIn (off := 611) (tgt := 644) hx hb dL_law_33 (by decide) (by decide) (by decide) (by decide) (lc_10 gx ax gm am C0 hK hP hD hS hl hend)
  | 11, _ => exact lv_tableIn (off := 634) (tgt := 667) hx hb dL_law_33 (by decide) (by decide) (by decide) (by decide) (lc_11 gx ax gm am C0 hK hP hD hS hl hend)
  | 12, _ => exact lv_tableIn (off := 657) (tgt := 690) hx hb dL_law_33 (by decide) (by decide) (by decide) (by decide) (lc_12 gx ax gm am C0 hK hP hD hS hl hend)
  | 13, _ => exact lv_tableIn (off := 680) (tgt := 713) hx hb dL_law_33 (by decide) (by decide) (by decide) (by decide) (lc_13 gx ax gm am C0 hK hP hD hS hl hend)
  | 14, _ => exact lv_tableIn (off := 703) (tgt := 736) hx hb dL_law_33 (by decide) (by decide) (by decide) (by decide) (lc_14 gx ax gm am C0 hK hP hD hS hl hend)
  | 15, _ => exact lv_tableIn (off := 726) (tgt := 759) hx hb dL_law_33 (by decide) (by decide) (by decide) (by decide) (lc_15 gx ax gm am C0 hK hP hD hS hl hend)
  | 16, _ => exact lv_tableIn (off := 749) (tgt := 782) hx hb dL_law_33 (by decide) (by decide) (by decide) (by decide) (lc_16 gx ax gm am C0 hK hP hD hS hl hend)
  | 17, _ => exact lv_tableIn (off := 772) (tgt := 805) hx hb dL_law_33 (by decide) (by decide) (by decide) (by decide) (lc_17 gx ax gm am C0 hK hP hD hS hl hend)
  | 18, _ => exact lv_tableIn (off := 795) (tgt := 828) hx hb dL_law_33 (by decide) (by decide) (by decide) (by decide) (lc_18 gx ax gm am C0 hK hP hD hS hl hend)
  | 19, _ => exact lv_tableIn (off := 808) (tgt := 841) hx hb dL_law_33 (by decide) (by decide) (by decide) (by decide) (lc_19 gx ax gm am C0 hK hP hD hS hl hend)
  | 20, _ => exact lv_tableIn (off := 821) (tgt := 854) hx hb dL_law_33 (by decide) (by decide) (by decide) (by decide) (lc_20 gx ax gm am C0 hK hP hD hS hl hend)
  | 21, _ => exact lv_tableIn (off := 844) (tgt := 877) hx hb dL_law_33 (by decide) (by decide) (by decide) (by decide) (lc_21 gx ax gm am C0 hK hP hD hS hl hend)
  | 22, _ => exact lv_tableIn (off := 857) (tgt := 890) hx hb dL_law_33 (by decide) (by decide) (by decide) (by decide) (lc_22 gx ax gm am C0 hK hP hD hS hl hend)
  | 23, _ => exact lv_tableIn (off := 880) (tgt := 913) hx hb dL_law_33 (by decide) (by decide) (by decide) (by decide) (lc_23 gx ax gm am C0 hK hP hD hS hl hend)
  | 24, _ => exact lv_tableIn (off := 893) (tgt := 926) hx hb dL_law_33 (by decide) (by decide) (by decide) (by decide) (lc_24 gx ax gm am C0 hK hP hD hS hl hend)
  | 25, _ => exact lv_tableIn (off := 916) (tgt := 949) hx hb dL_law_33 (by decide) (by decide) (by decide) (by decide) (lc_25 gx ax gm am C0 hK hP hD hS hl hend)
  | 26, _ => exact lv_tableIn (off := 939) (tgt := 972) hx hb dL_law_33 (by decide) (by decide) (by decide) (by decide) (lc_26 gx ax gm am C0 hK hP hD hS hl hend)
  | 27, _ => exact lv_tableIn (off := 952) (tgt := 985) hx hb dL_law_33 (by decide) (by decide) (by decide) (by decide) (lc_27 gx ax gm am C0 hK hP hD hS hl hend)
  | 28, _ => exact lv_tableIn (off := 975) (tgt := 1008) hx hb dL_law_33 (by decide) (by decide) (by decide) (by decide) (lc_28 gx ax gm am C0 hK hP hD hS hl hend)
  | 29, _ => exact lv_tableIn (off := 998) (tgt := 1031) hx hb dL_law_33 (by decide) (by decide) (by decide) (by decide) (lc_29 gx ax gm am C0 hK hP hD hS hl hend)
  | 30, _ => exact lv_tableIn (off := 1021) (tgt := 1054) hx hb dL_law_33 (by decide) (by decide) (by decide) (by decide) (lc_30 gx ax gm am C0 hK hP hD hS hl hend)
  | 31, _ => exact lv_tableIn (off := 1034) (tgt := 1067) hx hb dL_law_33 (by decide) (by decide) (by decide) (by decide) (lc_31 gx ax gm am C0 hK hP hD hS hl hend)
  | 32, _ => exact lv_tableIn (off := 1047) (tgt := 1080) hx hb dL_law_33 (by decide) (by decide) (by decide) (by decide) (lc_32 gx ax gm am C0 hK hP hD hS hl hend)
  | 33, _ => exact lv_tableIn (off := 1060) (tgt := 1093) hx hb dL_law_33 (by decide) (by decide) (by decide) (by decide) (lc_33 gx ax gm am C0 hK hP hD hS hl hend)
  | 34, _ => exact lv_tableIn (off := 1083) (tgt := 1116) hx hb dL_law_33 (by decide) (by decide) (by decide) (by decide) (lc_34 gx ax gm am C0 hK hP hD hS hl hend)
  | 35, _ => exact lv_tableIn (off := 1106) (tgt := 1139) hx hb dL_law_33 (by decide) (by decide) (by decide) (by decide) (lc_35 gx ax gm am C0 hK hP hD hS hl hend)
  | 36, _ => exact lv_tableIn (off := 1129) (tgt := 1162) hx hb dL_law_33 (by decide) (by decide) (by decide) (by decide) (lc_36 gx ax gm am C0 hK hP hD hS hl hend)
  | 37, _ => exact lv_tableIn (off := 1152) (tgt := 1185) hx hb dL_law_33 (by decide) (by decide) (by decide) (by decide) (lc_37 gx ax gm am C0 hK hP hD hS hl hend)
  | 38, _ => exact lv_tableIn (off := 1165) (tgt := 1198) hx hb dL_law_33 (by decide) (by decide) (by decide) (by decide) (lc_38 gx ax gm am C0 hK hP hD hS hl hend)
  | 39, _ => exact lv_tableIn (off := 1178) (tgt := 1211) hx hb dL_law_33 (by decide) (by decide) (by decide) (by decide) (lc_39 gx ax gm am C0 hK hP hD hS hl hend)
  | 40, _ => exact lv_tableIn (off := 1201) (tgt := 1234) hx hb dL_law_33 (by decide) (by decide) (by decide) (by decide) (lc_40 gx ax gm am C0 hK hP hD hS hl hend)
  | 41, _ => exact lv_tableIn (off := 1214) (tgt := 1247) hx hb dL_law_33 (by decide) (by decide) (by decide) (by decide) (lc_41 gx ax gm am C0 hK hP hD hS hl hend)
  | 42, _ => exact lv_tableIn (off := 1227) (tgt := 1260) hx hb dL_law_33 (by decide) (by decide) (by decide) (by decide) (lc_42 gx ax gm am C0 hK hP hD hS hl hend)
  | 43, _ => exact lv_tableIn (off := 1240) (tgt := 1273) hx hb dL_law_33 (by decide) (by decide) (by decide) (by decide) (lc_43 gx ax gm am C0 hK hP hD hS hl hend)
  | 44, _ => exact lv_tableIn (off := 1253) (tgt := 1286) hx hb dL_law_33 (by decide) (by decide) (by decide) (by decide) (lc_44 gx ax gm am C0 hK hP hD hS hl hend)
  | 45, _ => exact lv_tableIn (off := 1266) (tgt := 1299) hx hb dL_law_33 (by decide) (by decide) (by decide) (by decide) (lc_45 gx ax gm am C0 hK hP hD hS hl hend)
  | 46, _ => exact lv_tableIn (off := 1279) (tgt := 1312) hx hb dL_law_33 (by decide) (by decide) (by decide) (by decide) (lc_46 gx ax gm am C0 hK hP hD hS hl hend)
  | 47, _ => exact lv_tableIn (off := 1302) (tgt := 1335) hx hb dL_law_33 (by decide) (by decide) (by decide) (by decide) (lc_47 gx ax gm am C0 hK hP hD hS hl hend)
  | 48, _ => exact lv_tableIn (off := 1315) (tgt := 1348) hx hb dL_law_33 (by decide) (by decide) (by decide) (by decide) (lc_48 gx ax gm am C0 hK hP hD hS hl hend)
  | 49, _ => exact lv_tableIn (off := 1328) (tgt := 1361) hx hb dL_law_33 (by decide) (by decide) (by decide) (by decide) (lc_49 gx ax gm am C0 hK hP hD hS hl hend)
  | 50, _ => exact lv_tableIn (off := 1341) (tgt := 1374) hx hb dL_law_33 (by decide) (by decide) (by decide) (by decide) (lc_50 gx ax gm am C0 hK hP hD hS hl hend)
  | 51, _ => exact lv_tableIn (off := 1354) (tgt := 1387) hx hb dL_law_33 (by decide) (by decide) (by decide) (by decide) (lc_51 gx ax gm am C0 hK hP hD hS hl hend)
  | 52, _ => exact lv_tableIn (off := 1377) (tgt := 1410) hx hb dL_law_33 (by decide) (by decide) (by decide) (by decide) (lc_52 gx ax gm am C0 hK hP hD hS hl hend)
  | 53, _ => exact lv_tableIn (off := 1410) (tgt := 1443) hx hb dL_law_33 (by decide) (by decide) (by decide) (by decide) (lc_53 gx ax gm am C0 hK hP hD hS hl hend)
  | 54, _ => exact lv_tableIn (off := 1433) (tgt := 1466) hx hb dL_law_33 (by decide) (by decide) (by decide) (by decide) (lc_54 gx ax gm am C0 hK hP hD hS hl hend)
  | 55, _ => exact lv_tableIn (off := 1456) (tgt := 1489) hx hb dL_law_33 (by decide) (by decide) (by decide) (by decide) (lc_55 gx ax gm am C0 hK hP hD hS hl hend)
  | 56, _ => exact lv_tableIn (off := 1479) (tgt := 1512) hx hb dL_law_33 (by decide) (by decide) (by decide) (by decide) (lc_56 gx ax gm am C0 hK hP hD hS hl hend)
  | 57, _ => exact lv_tableIn (off := 1512) (tgt := 1545) hx hb dL_law_33 (by decide) (by decide) (by decide) (by decide) (lc_57 gx ax gm am C0 hK hP hD hS hl hend)
  | 58, _ => exact lv_tableIn (off := 1545) (tgt := 1578) hx hb dL_law_33 (by decide) (by decide) (by decide) (by decide) (lc_58 gx ax gm am C0 hK hP hD hS hl hend)
  | 59, _ => exact lv_tableIn (off := 1598) (tgt := 1631) hx hb dL_law_33 (by decide) (by decide) (by decide) (by decide) (lc_59 gx ax gm am C0 hK hP hD hS hl hend)
  | 60, _ => exact lv_tableIn (off := 1642) (tgt := 1675) hx hb dL_law_33 (by decide) (by decide) (by decide) (by decide) (lc_60 gx ax gm am C0 hK hP hD hS hl hend)
  | 61, _ => exact lv_tableIn (off := 1676) (tgt := 1709) hx hb dL_law_33 (by decide) (by decide) (by decide) (by decide) (lc_61 gx ax gm am C0 hK hP hD hS hl hend)
  | 62, _ => exact lv_tableIn (off := 1719) (tgt := 1752) hx hb dL_law_33 (by decide) (by decide) (by decide) (by decide) (lc_62 gx ax gm am C0 hK hP hD hS hl hend)
  | 63, _ => exact lv_tableIn (off := 1752) (tgt := 1785) hx hb dL_law_33 (by decide) (by decide) (by decide) (by decide) (lc_63 gx ax gm am C0 hK hP hD hS hl hend)
  | 64, _ => exact lv_tableIn (off := 1765) (tgt := 1798) hx hb dL_law_33 (by decide) (by decide) (by decide) (by decide) (lc_64 gx ax gm am C0 hK hP hD hS hl hend)
  | 65, _ => exact lv_tableIn (off := 1778) (tgt := 1811) hx hb dL_law_33 (by decide) (by decide) (by decide) (by decide) (lc_65 gx ax gm am C0 hK hP hD hS hl hend)
  | 66, _ => exact lv_tableIn (off := 1811) (tgt := 1844) hx hb dL_law_33 (by decide) (by decide) (by decide) (by decide) (lc_66 gx ax gm am C0 hK hP hD hS hl hend)
  | 67, _ => exact lv_tableIn (off := 1844) (tgt := 1877) hx hb dL_law_33 (by decide) (by decide) (by decide) (by decide) (lc_67 gx ax gm am C0 hK hP hD hS hl hend)
  | 68, _ => exact lv_tableIn (off := 1867) (tgt := 1900) hx hb dL_law_33 (by decide) (by decide) (by decide) (by decide) (lc_68 gx ax gm am C0 hK hP hD hS hl hend)
  | 69, _ => exact lv_tableIn (off := 1890) (tgt := 1923) hx hb dL_law_33 (by decide) (by decide) (by decide) (by decide) (lc_69 gx ax gm am C0 hK hP hD hS hl hend)
  | 70, _ => exact lv_tableIn (off := 1913) (tgt := 1946) hx hb dL_law_33 (by decide) (by decide) (by decide) (by decide) (lc_70 gx ax gm am C0 hK hP hD hS hl hend)
  | 71, _ => exact lv_tableIn (off := 1936) (tgt := 1969) hx hb dL_law_33 (by decide) (by decide) (by decide) (by decide) (lc_71 gx ax gm am C0 hK hP hD hS hl hend)
  | 72, _ => exact lv_tableIn (off := 1979) (tgt := 2012) hx hb dL_law_33 (by decide) (by decide) (by decide) (by decide) (lc_72 gx ax gm am C0 hK hP hD hS hl hend)
  | 73, _ => exact lv_tableIn (off := 2052) (tgt := 2085) hx hb dL_law_33 (by decide) (by decide) (by decide) (by decide) (lc_73 gx ax gm am C0 hK hP hD hS hl hend)
  | n + 74, h => exact lv_tableOut (tgt := 2148) hx hb dL_law_33 (Or.inr (by rw [nI_toInt (by omega)]; omega)) (by decide) (hend _ _ _ hS hl)
set_option maxRecDepth 100000 in
set_option maxHeartbeats 8000000 in
theorem whole_start {p : Program} {e : Env} {s : State} {m : MethodId} {below : List Frame} {meth : Method} {c : Code} (l : Launch) {b L : Nat} {xs : Nat → Int32} (hL : L ≤ 6) (C0 : lw_At p s m meth c b L xs) : W p l e room_1 s m #[Value.ref b] below meth c s.heap [] 0 0 (lw_Z below #[Value.ref b] s) (entryFrame m ([Value.ref b] : List Value).toArray 4) := by
  obtain ⟨hx, hb, hr, hml, hown, hts, hX, hbl, hlocks, hgv⟩ := id C0
  have hT : ∀ w ∈ TB, w.before #[Value.ref b] s = true := fun w h => hts w (TB_lw h)
  have hown : s.vm.findClass RL = some m.cls := hown
  have hA : ∀ q : Nat, s.heap.size ≤ q → (fun q : Nat => s.heap.size ≤ q) q := fun _ h => h
  have hbA : ¬ (fun q : Nat => s.heap.size ≤ q) b := Nat.not_le.mpr hbl
  have hN : NW s := ⟨fun q hq => va_Nw.of rfl (hts _ (NW_law q hq)), va_AO.of (hts _ AO_law)⟩
  obtain ⟨c0, iS0, hKn0⟩ := u_known (C := RX0) (T := TX0) (N := 3) (n := 3) hT inT0 (hT _ mw_360)
  obtain ⟨c1, iS1, hKn1⟩ := u_known (C := RX1) (T := TX1) (N := 11) (n := 11) hT inT1 (hT _ mw_308)
  obtain ⟨c2, iS2, hKn2⟩ := u_known (C := RX2) (T := TX2) (N := 10) (n := 10) hT inT2 (hT _ mw_321)
  obtain ⟨c3, iS3, hKn3⟩ := u_known (C := RX3) (T := TX3) (N := 9) (n := 9) hT inT3 (hT _ mw_344)
  obtain ⟨c4, iS4, hKn4⟩ := u_known (C := RX4) (T := TX4) (N := 7) (n := 7) hT inT4 (hT _ mw_295)
  obtain ⟨c5, iS5, hKn5⟩ := u_known (C := RX5) (T := TX5) (N := 3) (n := 3) hT inT5 (hT _ mw_316)
  obtain ⟨c6, iS6, hKn6⟩ := u_known (C := RX6) (T := TX6) (N := 13) (n := 13) hT inT6 (hT _ mw_329)
  obtain ⟨c7, iS7, hKn7⟩ := u_known (C := RX7) (T := TX7) (N := 2) (n := 2) hT inT7 (hT _ mw_298)
  obtain ⟨c8, iS8, hKn8⟩ := u_known (C := RX8) (T := TX8) (N := 14) (n := 14) hT inT8 (hT _ mw_392)
  obtain ⟨c9, iS9, hKn9⟩ := u_known (C := RX9) (T := TX9) (N := 61) (n := 61) hT inT9 (hT _ mw_393)
  obtain ⟨dC, dI, hKc⟩ : ∃ (dC : Nat → ClassId) (dI : Nat → Nat → Nat), ∀ (k : Nat) (q : vw_C), vwCl[k]? = some q → u_Kn s q.1 q.2.1 q.2.2 (dC k) (dI k) := by
    refine ⟨fun k => ([c0, c1, c2, c3, c4, c5, c6, c7, c8, c9] : List Nat).getD k 0, fun k => ([iS0, iS1, iS2, iS3, iS4, iS5, iS6, iS7, iS8, iS9] : List (Nat → Nat)).getD k (fun _ => 0), ?_⟩
    intro k q hq
    match k, hq with
    | 0, hq => cases hq; exact hKn0
    | 1, hq => cases hq; exact hKn1
    | 2, hq => cases hq; exact hKn2
    | 3, hq => cases hq; exact hKn3
    | 4, hq => cases hq; exact hKn4
    | 5, hq => cases hq; exact hKn5
    | 6, hq => cases hq; exact hKn6
    | 7, hq => cases hq; exact hKn7
    | 8, hq => cases hq; exact hKn8
    | 9, hq => cases hq; exact hKn9
    | k + 10, hq => simp [vwCl] at hq
  have hS : va_S (fun q : Nat => s.heap.size ≤ q) s.heap s.heap [] := va_S.rf
  have hK : va_K (dC, dI) vwCl [] s := ⟨hKc, fun k q h => by simp at h⟩
  have hP : va_P (dC, dI) vwCl [] s.heap := fun k q h => by simp at h
  have hD : va_D (fun q : Nat => s.heap.size ≤ q) [] := ⟨fun i j p q h => by simp at h, fun k q h => by simp at h⟩
  have hl := lv_entry ([.ref b]) (n := 4) (Nat.le_of_ble_eq_true rfl)
  rw [lg_entry_eq]
  generalize (lg_sl ([.ref b]) ++ List.replicate (4 - (lg_sl ([.ref b])).length) Slot.unset).toArray = ls at hl ⊢
  have hl : lv_has ls 4 [(0, .ref b)] := hl
  refine va_new (ci := 8) (fs := [.null, .null, .null, .null, .null, .null, .null, .null, .null, .null, .null, .int 0, .int 0, .int 0]) (C := RX8) (T := TX8) (N := 14) hx hb hT inT8 tyX8 tyX8_ok hown (hT _ mw_394) (hT _ mw_392) (hT _ mw_69) hK hP hD hS hA rfl (by decide +kernel) (Nat.le_of_ble_eq_true rfl) (Nat.le_of_ble_eq_true rfl) dL_law_0 (fun q1 H hP hD hS => ?_)
  have hP : va_P (dC, dI) vwCl [(q1, .inr (8, [.null, .null, .null, .null, .null, .null, .null, .null, .null, .null, .null, .int 0, .int 0, .int 0]))] H := hP
  have hD : va_D (fun q : Nat => s.heap.size ≤ q) [(q1, .inr (8, [.null, .null, .null, .null, .null, .null, .null, .null, .null, .null, .null, .int 0, .int 0, .int 0]))] := hD
  refine W.widen (k := 1) (n := 14) (Nat.le_of_ble_eq_true rfl) (Nat.le_of_ble_eq_true rfl) ?_
  refine lv_dup hx hb dL_law_3 rfl ?_
  refine c_ID (own := RL) (rest := [.ref q1]) (wr := []) ⟨hx, hb, hml, hown, hT⟩ (k_X8_init l dC dI q1) hN hK hP hD hS hA [0] [] rfl rfl rfl rfl (by decide) mw_395 mw_396 mw_69 mw_397 rfl (by decide +kernel) ⟨Nat.le_of_ble_eq_true rfl, Nat.le_of_ble_eq_true rfl⟩ ⟨rfl, rfl⟩ hl.1 (Nat.le_of_ble_eq_true rfl) dL_law_4 ⟨Nat.le_of_ble_eq_true rfl, Nat.le_of_ble_eq_true rfl⟩ (fun ux H locs hpu hK hP hD hS => ?_)
  obtain ⟨gx, ax⟩ := ux
  have hpu : gx 0 = q1 := hpu
  subst hpu
  have hP : va_P (dC, dI) vwCl (wX gx ax) H := hP
  have hD : va_D (fun q : Nat => s.heap.size ≤ q) (wX gx ax) := hD
  have hK : va_K (dC, dI) vwCl (tX ax) s := hK
  refine W.widen (k := 96) (n := 4990) (Nat.le_of_ble_eq_true rfl) (Nat.le_of_ble_eq_true rfl) ?_
  refine lv_astore_n (lv' := [(1, .ref (gx 0)), (0, .ref b)]) hx hb dL_law_7 rfl hl (by decide) rfl (fun ls hl => ?_)
  refine va_new (ci := 9) (fs := [.int 0, .null, .null, .null, .null, .int 0, .null, .int 0, .int 0, .int 0, .int 0, .int 0, .int 0, .int 0, .null, .null, .null, .null, .int 0, .int 0, .int 0, .null, .null, .null, .null, .null, .null, .null, .null, .null, .null, .null, .null, .null, .int 0, .int 0, .int 0, .null, .null, .null, .null, .int 0, .int 0, .int 0, .int 0, .null, .int 0, .int 0, .int 0, .null, .null, .int 0, .int 0, .null, .long 0, .long 0, .long 0, .null, .null, .null, .null]) (C := RX9) (T := TX9) (N := 61) hx hb hT inT9 tyX9 tyX9_ok hown (hT _ mw_398) (hT _ mw_393) (hT _ mw_19) hK hP hD hS hA rfl (by decide +kernel) (Nat.le_of_ble_eq_true rfl) (Nat.le_of_ble_eq_true rfl) dL_law_8 (fun q2 H hP hD hS => ?_)
  have hP : va_P (dC, dI) vwCl (wX gx ax ++ [(q2, .inr (9, [.int 0, .null, .null, .null, .null, .int 0, .null, .int 0, .int 0, .int 0, .int 0, .int 0, .int 0, .int 0, .null, .null, .null, .null, .int 0, .int 0, .int 0, .null, .null, .null, .null, .null, .null, .null, .null, .null, .null, .null, .null, .null, .int 0, .int 0, .int 0, .null, .null, .null, .null, .int 0, .int 0, .int 0, .int 0, .null, .int 0, .int 0, .int 0, .null, .null, .int 0, .int 0, .null, .long 0, .long 0, .long 0, .null, .null, .null, .null]))]) H := hP
  have hD : va_D (fun q : Nat => s.heap.size ≤ q) (wX gx ax ++ [(q2, .inr (9, [.int 0, .null, .null, .null, .null, .int 0, .null, .int 0, .int 0, .int 0, .int 0, .int 0, .int 0, .int 0, .null, .null, .null, .null, .int 0, .int 0, .int 0, .null, .null, .null, .null, .null, .null, .null, .null, .null, .null, .null, .null, .null, .int 0, .int 0, .int 0, .null, .null, .null, .null, .int 0, .int 0, .int 0, .int 0, .null, .int 0, .int 0, .int 0, .null, .null, .int 0, .int 0, .null, .long 0, .long 0, .long 0, .null, .null, .null, .null]))]) := hD
  refine W.widen (k := 97) (n := 5051) (Nat.le_of_ble_eq_true rfl) (Nat.le_of_ble_eq_true rfl) ?_
  refine lv_dup hx hb dL_law_11 rfl ?_
  refine c_ID (own := RL) (rest := [.ref q2]) (wr := (wX gx ax)) ⟨hx, hb, hml, hown, hT⟩ (k_X9_init l dC dI q2) hN hK hP hD hS hA [74] [0, 1, 2, 3, 4, 5, 6, 7, 8, 9, 10, 11, 12, 13, 14, 15, 16, 17, 18, 19, 20, 21, 22, 23, 24, 25, 26, 27, 28, 29, 30, 31, 32, 33, 34, 35, 36, 37, 38, 39, 40, 41, 42, 43, 44, 45, 46, 47, 48, 49, 50, 51, 52, 53, 54, 55, 56, 57, 58, 59, 60, 61, 62, 63, 64, 65, 66, 67, 68, 69, 70, 71, 72, 73] rfl rfl rfl rfl (by decide) mw_399 mw_400 mw_19 mw_401 rfl (by decide +kernel) ⟨Nat.le_of_ble_eq_true rfl, Nat.le_of_ble_eq_true rfl⟩ ⟨rfl, rfl⟩ hl.1 (Nat.le_of_ble_eq_true rfl) dL_law_12 ⟨Nat.le_of_ble_eq_true rfl, Nat.le_of_ble_eq_true rfl⟩ (fun um H locs hpu hK hP hD hS => ?_)
  obtain ⟨gm, am⟩ := um
  have hpu : gm 0 = q2 := hpu
  subst hpu
  have hP : va_P (dC, dI) vwCl (wX gx ax ++ wM gm am) H := hP
  have hD : va_D (fun q : Nat => s.heap.size ≤ q) (wX gx ax ++ wM gm am) := hD
  have hK : va_K (dC, dI) vwCl (tX ax ++ tM am) s := hK
  refine W.widen (k := 131) (n := 55420) (Nat.le_of_ble_eq_true rfl) (Nat.le_of_ble_eq_true rfl) ?_
  refine lv_astore_n (lv' := [(2, .ref (gm 0)), (1, .ref (gx 0)), (0, .ref b)]) hx hb dL_law_15 rfl hl (by decide) rfl (fun ls hl => ?_)
  refine lv_iconst (v := 0) hx hb dL_law_16 (by decide) ?_
  refine lv_istore_n (lv' := [(3, .int 0), (2, .ref (gm 0)), (1, .ref (gx 0)), (0, .ref b)]) hx hb dL_law_17 rfl hl (by decide) rfl (fun ls hl => ?_)
  refine lv_iload_n hx hb dL_law_18 rfl (lv_at hl 0 rfl) ?_
  refine lv_aload_n hx hb dL_law_19 rfl (lv_at hl 3 rfl) ?_
  refine va_slen hx hb hX hbl hbA hS dL_law_20 ?_
  refine lv_bipush (v := 6) hx hb dL_law_21 (by decide) ?_
  refine lv_isub hx hb dL_law_23 ?_
  refine lv_icmp_gt (tgt := 2154) hx hb dL_law_24 (by decide) (fun _ => law_end C0 hS) (fun c9 => ?_)
  have hL6 : L = 6 := by
    match L, hL, c9 with
    | 0, _, c9 => exact absurd (by decide) c9
    | 1, _, c9 => exact absurd (by decide) c9
    | 2, _, c9 => exact absurd (by decide) c9
    | 3, _, c9 => exact absurd (by decide) c9
    | 4, _, c9 => exact absurd (by decide) c9
    | 5, _, c9 => exact absurd (by decide) c9
    | 6, _, _ => rfl
  subst hL6
  refine lv_aload_n hx hb dL_law_27 rfl (lv_at hl 3 rfl) ?_
  refine lv_iload_n hx hb dL_law_28 rfl (lv_at hl 0 rfl) ?_
  refine va_sld hx hb hX hbl hbA hS (by unfold vp_in; decide) dL_law_29 ?_
  refine lv_bipush (v := 127) hx hb dL_law_30 (by decide) ?_
  refine lv_iand hx hb dL_law_32 ?_
  obtain ⟨j, hj, ej⟩ := pk_andE (xs (0 : Int32).toNatClampNeg) (m := 127) 7 (by decide)
  refine t_i (nI j) ej ?_
  exact law_sw gx ax gm am C0 hK hP hD hS (lv_sub hl [3, 2, 1, 0] rfl) j hj
