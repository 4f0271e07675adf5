set_option maxRecDepth 100000 in
set_option maxHeartbeats 4000000 in
theorem law_end {p : Program} {l : Launch} {e : Env} {s : State} {m : MethodId} {below : List Frame} {meth : Method} {c : Code} {b L : Nat} {xs : Nat → Int32} {H : Heap} {locs : List Loc} {ls : Array Slot} (C0 : lw_At p s m meth c b L xs) (hS : va_S (fun q : Nat => s.heap.size ≤ q) s.heap H locs) : LG p l e s m b below meth c H locs (F0 m 2152 ls []) := by
  obtain ⟨hx, hb, hr, hml, hown, hts, hX, hbl, hlocks, hgv⟩ := C0
  refine lv_iconst (v := 1) hx hb dL_law_2152 (by decide) ?_
  refine va_forget (fun q hq => hS.2.2 q hq) ?_
  refine W.widen (k := 600000) (n := 7302250) (Nat.le_of_ble_eq_true rfl) (Nat.le_of_ble_eq_true rfl) ?_
  exact lw_ret hx hb hr hlocks dL_law_2153
set_option maxRecDepth 100000 in
set_option maxHeartbeats 8000000 in
theorem law_sw {p : Program} {l : Launch} {e : Env} {s : State} {m : MethodId} {below : List Frame} {meth : Method} {c : Code} {dC : Nat → ClassId} {dI : Nat → Nat → Nat} {b L : Nat} {xs : Nat → Int32} {H : Heap} {locs : List Loc} {ls : Array Slot} {ρ : Nat → Nat} {σ : Nat → Option Nat} {a : Nat → ClassId} {h : PH} {i : Int32} (C0 : lw_At p s m meth c b L xs) (hK : va_K (dC, dI) vwCl (tysP a) s) (hM : AMB σ (fun q : Nat => s.heap.size ≤ q) s s.heap) (hI : INV h) (hJ : REL h) (hP : va_P (dC, dI) vwCl (toW ρ a h) H) (hD : va_D (fun q : Nat => s.heap.size ≤ q) (toW ρ a h)) (hS : va_S (fun q : Nat => s.heap.size ≤ q) s.heap H locs) (hl : lv_has ls 4 [(0, .ref b), (1, .ref (ρ 0)), (2, .ref (ρ 96)), (3, .int i)]) (hi : 0 ≤ i.toInt ∧ i.toInt + 6 ≤ (L : Int) ∧ L ≤ 384) (hend : ∀ (H : Heap) (locs : List Loc) (ls : Array Slot) (h : PH), INV h → REL h → va_P (dC, dI) vwCl (toW ρ a h) H → va_D (fun q : Nat => s.heap.size ≤ q) (toW ρ a h) → va_S (fun q : Nat => s.heap.size ≤ q) s.heap H locs → lv_has ls 4 [(0, .ref b), (1, .ref (ρ 0)), (2, .ref (ρ 96)), (3, .int i)] → LG p l e s m b below meth c H locs (F0 m 2146 ls [])) (j : Nat) (hj : j < 128) : LG p l e s m b below meth c H locs (F0 m 33 ls [.int (nI j)]) := by
  obtain ⟨hx, hb, hr, hml, hown, hts, hX, hbl, hlocks, hgv⟩ := id C0
  have h_0 : ∀ a : Nat, a < 0 → LG p l e s m b below meth c H locs (F0 m 33 ls [.int (nI a)]) := lt_0
  have h_1 : ∀ a : Nat, a < 1 → LG p l e s m b below meth c H locs (F0 m 33 ls [.int (nI a)]) := lt_s (p := fun a => LG p l e s m b below meth c H locs (F0 m 33 ls [.int (nI a)])) h_0 (lv_tableIn (off := 311) (tgt := 344) hx hb dL_law_33 (by decide) (by decide) (by decide) (by decide) (lc_0 C0 hK hM hI hJ hP hD hS hl hi hend))
  have h_2 : ∀ a : Nat, a < 2 → LG p l e s m b below meth c H locs (F0 m 33 ls [.int (nI a)]) := lt_s (p := fun a => LG p l e s m b below meth c H locs (F0 m 33 ls [.int (nI a)])) h_1 (lv_tableIn (off := 374) (tgt := 407) hx hb dL_law_33 (by decide) (by decide) (by decide) (by decide) (lc_1 C0 hK hM hI hJ hP hD hS hl hi hend))
  have h_3 : ∀ a : Nat, a < 3 → LG p l e s m b below meth c H locs (F0 m 33 ls [.int (nI a)]) := lt_s (p := fun a => LG p l e s m b below meth c H locs (F0 m 33 ls [.int (nI a)])) h_2 (lv_tableIn (off := 397) (tgt := 430) hx hb dL_law_33 (by decide) (by decide) (by decide) (by decide) (lc_2 C0 hK hM hI hJ hP hD hS hl hi hend))
  have h_4 : ∀ a : Nat, a < 4 → LG p l e s m b below meth c H locs (F0 m 33 ls [.int (nI a)]) := lt_s (p := fun a => LG p l e s m b below meth c H locs (F0 m 33 ls [.int (nI a)])) h_3 (lv_tableIn (off := 410) (tgt := 443) hx hb dL_law_33 (by decide) (by decide) (by decide) (by decide) (lc_3 C0 hK hM hI hJ hP hD hS hl hi hend))
  have h_5 : ∀ a : Nat, a < 5 → LG p l e s m b below meth c H locs (F0 m 33 ls [.int (nI a)]) := lt_s (p := fun a => LG p l e s m b below meth c H locs (F0 m 33 ls [.int (nI a)])) h_4 (lv_tableIn (off := 433) (tgt := 466) hx hb dL_law_33 (by decide) (by decide) (by decide) (by decide) (lc_4 C0 hK hM hI hJ hP hD hS hl hi hend))
  have h_6 : ∀ a : Nat, a < 6 → LG p l e s m b below meth c H locs (F0 m 33 ls [.int (nI a)]) := lt_s (p := fun a => LG p l e s m b below meth c H locs (F0 m 33 ls [.int (nI a)])) h_5 (lv_tableIn (off := 466) (tgt := 499) hx hb dL_law_33 (by decide) (by decide) (by decide) (by decide) (lc_5 C0 hK hM hI hJ hP hD hS hl hi hend))
  have h_7 : ∀ a : Nat, a < 7 → LG p l e s m b below meth c H locs (F0 m 33 ls [.int (nI a)]) := lt_s (p := fun a => LG p l e s m b below meth c H locs (F0 m 33 ls [.int (nI a)])) h_6 (lv_tableIn (off := 499) (tgt := 532) hx hb dL_law_33 (by decide) (by decide) (by decide) (by decide) (lc_6 C0 hK hM hI hJ hP hD hS hl hi hend))
  have h_8 : ∀ a : Nat, a < 8 → LG p l e s m b below meth c H locs (F0 m 33 ls [.int (nI a)]) := lt_s (p := fun a => LG p l e s m b below meth c H locs (F0 m 33 ls [.int (nI a)])) h_7 (lv_tableIn (off := 522) (tgt := 555) hx hb dL_law_33 (by decide) (by decide) (by decide) (by decide) (lc_7 C0 hK hM hI hJ hP hD hS hl hi hend))
  have h_9 : ∀ a : Nat, a < 9 → LG p l e s m b below meth c H locs (F0 m 33 ls [.int (nI a)]) := lt_s (p := fun a => LG p l e s m b below meth c H locs (F0 m 33 ls [.int (nI a)])) h_8 (lv_tableIn (off := 555) (tgt := 588) hx hb dL_law_33 (by decide) (by decide) (by decide) (by decide) (lc_8 C0 hK hM hI hJ hP hD hS hl hi hend))
  have h_10 : ∀ a : Nat, a < 10 → LG p l e s m b below meth c H locs (F0 m 33 ls [.int (nI a)]) := lt_s (p := fun a => LG p l e s m b below meth c H locs (F0 m 33 ls [.int (nI a)])) h_9 (lv_tableIn (off := 588) (tgt := 621) hx hb dL_law_33 (by decide) (by decide) (by decide) (by decide) (lc_9 C0 hK hM hI hJ hP hD hS hl hi hend))
  have h_11 : ∀ a : Nat, a < 11 → LG p l e s m b below meth c H locs (F0 m 33 ls [.int (nI a)]) := lt_s (p := fun a => LG p l e s m b below meth c H locs (F0 m 33 ls [.int (nI a)])) h_10 (lv_tableIn (off := 611) (tgt := 644) hx hb dL_law_33 (by decide) (by decide) (by decide) (by decide) (lc_10 C0 hK hM hI hJ hP hD hS hl hi hend))
  have h_12 : ∀ a : Nat, a < 12 → LG p l e s m b below meth c H locs (F0 m 33 ls [.int (nI a)]) := lt_s (p := fun a => LG p l e s m b below meth c H locs (F0 m 33 ls [.int (nI a)])) h_11 (lv_tableIn (off := 634) (tgt := 667) hx hb dL_law_33 (by decide) (by decide) (by decide) (by decide) (lc_11 C0 hK hM hI hJ hP hD hS hl hi hend))
  have h_13 : ∀ a : Nat, a < 13 → LG p l e s m b below meth c H locs (F0 m 33 ls [.int (nI a)]) := lt_s (p := fun a => LG p l e s m b below meth c H locs (F0 m 33 ls [.int (nI a)])) h_12 (lv_tableIn (off := 657) (tgt := 690) hx hb dL_law_33 (by decide) (by decide) (by decide) (by decide) (lc_12 C0 hK hM hI hJ hP hD hS hl hi hend))
  have h_14 : ∀ a : Nat, a < 14 → LG p l e s m b below meth c H locs (F0 m 33 ls [.int (nI a)]) := lt_s (p := fun a => LG p l e s m b below meth c H locs (F0 m 33 ls [.int (nI a)])) h_13 (lv_tableIn (off := 680) (tgt := 713) hx hb dL_law_33 (by decide) (by decide) (by decide) (by decide) (lc_13 C0 hK hM hI hJ hP hD hS hl hi hend))
  have h_15 : ∀ a : Nat, a < 15 → LG p l e s m b below meth c H locs (F0 m 33 ls [.int (nI a)]) := lt_s (p := fun a => LG p l e s m b below meth c H locs (F0 m 33 ls [.int (nI a)])) h_14 (lv_tableIn (off := 703) (tgt := 736) hx hb dL_law_33 (by decide) (by decide) (by decide) (by decide) (lc_14 C0 hK hM hI hJ hP hD hS hl hi hend))
  have h_16 : ∀ a : Nat, a < 16 → LG p l e s m b below meth c H locs (F0 m 33 ls [.int (nI a)]) := lt_s (p := fun a => LG p l e s m b below meth c H locs (F0 m 33 ls [.int (nI a)])) h_15 (lv_tableIn (off := 726) (tgt := 759) hx hb dL_law_33 (by decide) (by decide) (by decide) (by decide) (lc_15 C0 hK hM hI hJ hP hD hS hl hi hend))
  have h_17 : ∀ a : Nat, a < 17 → LG p l e s m b below meth c H locs (F0 m 33 ls [.int (nI a)]) := lt_s (p := fun a => LG p l e s m b below meth c H locs (F0 m 33 ls [.int (nI a)])) h_16 (lv_tableIn (off := 749) (tgt := 782) hx hb dL_law_33 (by decide) (by decide) (by decide) (by decide) (lc_16 C0 hK hM hI hJ hP hD hS hl hi hend))
  have h_18 : ∀ a : Nat, a < 18 → LG p l e s m b below meth c H locs (F0 m 33 ls [.int (nI a)]) := lt_s (p := fun a => LG p l e s m b below meth c H locs (F0 m 33 ls [.int (nI a)])) h_17 (lv_tableIn (off := 772) (tgt := 805) hx hb dL_law_33 (by decide) (by decide) (by decide) (by decide) (lc_17 C0 hK hM hI hJ hP hD hS hl hi hend))
  have h_19 : ∀ a : Nat, a < 19 → LG p l e s m b below meth c H locs (F0 m 33 ls [.int (nI a)]) := lt_s (p := fun a => LG p l e s m b below meth c H locs (F0 m 33 ls [.int (nI a)])) h_18 (lv_tableIn (off := 795) (tgt := 828) hx hb dL_law_33 (by decide) (by decide) (by decide) (by decide) (lc_18 C0 hK hM hI hJ hP hD hS hl hi hend))
  have h_20 : ∀ a : Nat, a < 20 → LG p l e s m b below meth c H locs (F0 m 33 ls [.int (nI a)]) := lt_s (p := fun a => LG p l e s m b below meth c H locs (F0 m 33 ls [.int (nI a)])) h_19 (lv_tableIn (off := 808) (tgt := 841) hx hb dL_law_33 (by decide) (by decide) (by decide) (by decide) (lc_19 C0 hK hM hI hJ hP hD hS hl hi hend))
  have h_21 : ∀ a : Nat, a < 21 → LG p l e s m b below meth c H locs (F0 m 33 ls [.int (nI a)]) := lt_s (p := fun a => LG p l e s m b below meth c H locs (F0 m 33 ls [.int (nI a)])) h_20 (lv_tableIn (off := 821) (tgt := 854) hx hb dL_law_33 (by decide) (by decide) (by decide) (by decide) (lc_20 C0 hK hM hI hJ hP hD hS hl hi hend))
  have h_22 : ∀ a : Nat, a < 22 → LG p l e s m b below meth c H locs (F0 m 33 ls [.int (nI a)]) := lt_s (p := fun a => LG p l e s m b below meth c H locs (F0 m 33 ls [.int (nI a)])) h_21 (lv_tableIn (off := 844) (tgt := 877) hx hb dL_law_33 (by decide) (by decide) (by decide) (by decide) (lc_21 C0 hK hM hI hJ hP hD hS hl hi hend))
  have h_23 : ∀ a : Nat, a < 23 → LG p l e s m b below meth c H locs (F0 m 33 ls [.int (nI a)]) := lt_s (p := fun a => LG p l e s m b below meth c H locs (F0 m 33 ls [.int (nI a)])) h_22 (lv_tableIn (off := 857) (tgt := 890) hx hb dL_law_33 (by decide) (by decide) (by decide) (by decide) (lc_22 C0 hK hM hI hJ hP hD hS hl hi hend))
  have h_24 : ∀ a : Nat, a < 24 → LG p l e s m b below meth c H locs (F0 m 33 ls [.int (nI a)]) := lt_s (p := fun a => LG p l e s m b below meth c H locs (F0 m 33 ls [.int (nI a)])) h_23 (lv_tableIn (off := 880) (tgt := 913) hx hb dL_law_33 (by decide) (by decide) (by decide) (by decide) (lc_23 C0 hK hM hI hJ hP hD hS hl hi hend))
  have h_25 : ∀ a : Nat, a < 25 → LG p l e s m b below meth c H locs (F0 m 33 ls [.int (nI a)]) := lt_s (p := fun a => LG p l e s m b below meth c H locs (F0 m 33 ls [.int (nI a)])) h_24 (lv_tableIn (off := 893) (tgt := 926) hx hb dL_law_33 (by decide) (by decide) (by decide) (by decide) (lc_24 C0 hK hM hI hJ hP hD hS hl hi hend))
  have h_26 : ∀ a : Nat, a < 26 → LG p l e s m b below meth c H locs (F0 m 33 ls [.int (nI a)]) := lt_s (p := fun a => LG p l e s m b below meth c H locs (F0 m 33 ls [.int (nI a)])) h_25 (lv_tableIn (off := 916) (tgt := 949) hx hb dL_law_33 (by decide) (by decide) (by decide) (by decide) (lc_25 C0 hK hM hI hJ hP hD hS hl hi hend))
  have h_27 : ∀ a : Nat, a < 27 → LG p l e s m b below meth c H locs (F0 m 33 ls [.int (nI a)]) := lt_s (p := fun a => LG p l e s m b below meth c H locs (F0 m 33 ls [.int (nI a)])) h_26 (lv_tableIn (off := 939) (tgt := 972) hx hb dL_law_33 (by decide) (by decide) (by decide) (by decide) (lc_26 C0 hK hM hI hJ hP hD hS hl hi hend))
  have h_28 : ∀ a : Nat, a < 28 → LG p l e s m b below meth c H locs (F0 m 33 ls [.int (nI a)]) := lt_s (p := fun a => LG p l e s m b below meth c H locs (F0 m 33 ls [.int (nI a)])) h_27 (lv_tableIn (off := 952) (tgt := 985) hx hb dL_law_33 (by decide) (by decide) (by decide) (by decide) (lc_27 C0 hK hM hI hJ hP hD hS hl hi hend))
  have h_29 : ∀ a : Nat, a < 29 → LG p l e s m b below meth c H locs (F0 m 33 ls [.int (nI a)]) := lt_s (p := fun a => LG p l e s m b below meth c H locs (F0 m 33 ls [.int (nI a)])) h_28 (lv_tableIn (off := 975) (tgt := 1008) hx hb dL_law_33 (by decide) (by decide) (by decide) (by decide) (lc_28 C0 hK hM hI hJ hP hD hS hl hi hend))
  have h_30 : ∀ a : Nat, a < 30 → LG p l e s m b below meth c H locs (F0 m 33 ls [.int (nI a)]) := lt_s (p := fun a => LG p l e s m b below meth c H locs (F0 m 33 ls [.int (nI a)])) h_29 (lv_tableIn (off := 998) (tgt := 1031) hx hb dL_law_33 (by decide) (by decide) (by decide) (by decide) (lc_29 C0 hK hM hI hJ hP hD hS hl hi hend))
  have h_31 : ∀ a : Nat, a < 31 → LG p l e s m b below meth c H locs (F0 m 33 ls [.int (nI a)]) := lt_s (p := fun a => LG p l e s m b below meth c H locs (F0 m 33 ls [.int (nI a)])) h_30 (lv_tableIn (off := 1021) (tgt := 1054) hx hb dL_law_33 (by decide) (by decide) (by decide) (by decide) (lc_30 C0 hK hM hI hJ hP hD hS hl hi hend))
  have h_32 : ∀ a : Nat, a < 32 → LG p l e s m b below meth c H locs (F0 m 33 ls [.int (nI a)]) := lt_s (p := fun a => LG p l e s m b below meth c H locs (F0 m 33 ls [.int (nI a)])) h_31 (lv_tableIn (off := 1034) (tgt := 1067) hx hb dL_law_33 (by decide) (by decide) (by decide) (by decide) (lc_31 C0 hK hM hI hJ hP hD hS hl hi hend))
  have h_33 : ∀ a : Nat, a < 33 → LG p l e s m b below meth c H locs (F0 m 33 ls [.int (nI a)]) := lt_s (p := fun a => LG p l e s m b below meth c H locs (F0 m 33 ls [.int (nI a)])) h_32 (lv_tableIn (off := 1047) (tgt := 1080) hx hb dL_law_33 (by decide) (by decide) (by decide) (by decide) (lc_32 C0 hK hM hI hJ hP hD hS hl hi hend))
  have h_34 : ∀ a : Nat, a < 34 → LG p l e s m b below meth c H locs (F0 m 33 ls [.int (nI a)]) := lt_s (p := fun a => LG p l e s m b below meth c H locs (F0 m 33 ls [.int (nI a)])) h_33 (lv_tableIn (off := 1060) (tgt := 1093) hx hb dL_law_33 (by decide) (by decide) (by decide) (by decide) (lc_33 C0 hK hM hI hJ hP hD hS hl hi hend))
  have h_35 : ∀ a : Nat, a < 35 → LG p l e s m b below meth c H locs (F0 m 33 ls [.int (nI a)]) := lt_s (p := fun a => LG p l e s m b below meth c H locs (F0 m 33 ls [.int (nI a)])) h_34 (lv_tableIn (off := 1083) (tgt := 1116) hx hb dL_law_33 (by decide) (by decide) (by decide) (by decide) (lc_34 C0 hK hM hI hJ hP hD hS hl hi hend))
  have h_36 : ∀ a : Nat, a < 36 → LG p l e s m b below meth c H locs (F0 m 33 ls [.int (nI a)]) := lt_s (p := fun a => LG p l e s m b below meth c H locs (F0 m 33 ls [.int (nI a)])) h_35 (lv_tableIn (off := 1106) (tgt := 1139) hx hb dL_law_33 (by decide) (by decide) (by decide) (by decide) (lc_35 C0 hK hM hI hJ hP hD hS hl hi hend))
  have h_37 : ∀ a : Nat, a < 37 → LG p l e s m b below meth c H locs (F0 m 33 ls [.int (nI a)]) := lt_s (p := fun a => LG p l e s m b below meth c H locs (F0 m 33 ls [.int (nI a)])) h_36 (lv_tableIn (off := 1129) (tgt := 1162) hx hb dL_law_33 (by decide) (by decide) (by decide) (by decide) (lc_36 C0 hK hM hI hJ hP hD hS hl hi hend))
  have h_38 : ∀ a : Nat, a < 38 → LG p l e s m b below meth c H locs (F0 m 33 ls [.int (nI a)]) := lt_s (p := fun a => LG p l e s m b below meth c H locs (F0 m 33 ls [.int (nI a)])) h_37 (lv_tableIn (off := 1152) (tgt := 1185) hx hb dL_law_33 (by decide) (by decide) (by decide) (by decide) (lc_37 C0 hK hM hI hJ hP hD hS hl hi hend))
  have h_39 : ∀ a : Nat, a < 39 → LG p l e s m b below meth c H locs (F0 m 33 ls [.int (nI a)]) := lt_s (p := fun a => LG p l e s m b below meth c H locs (F0 m 33 ls [.int (nI a)])) h_38 (lv_tableIn (off := 1165) (tgt := 1198) hx hb dL_law_33 (by decide) (by decide) (by decide) (by decide) (lc_38 C0 hK hM hI hJ hP hD hS hl hi hend))
  have h_40 : ∀ a : Nat, a < 40 → LG p l e s m b below meth c H locs (F0 m 33 ls [.int (nI a)]) := lt_s (p := fun a => LG p l e s m b below meth c H locs (F0 m 33 ls [.int (nI a)])) h_39 (lv_tableIn (off := 1178) (tgt := 1211) hx hb dL_law_33 (by decide) (by decide) (by decide) (by decide) (lc_39 C0 hK hM hI hJ hP hD hS hl hi hend))
  have h_41 : ∀ a : Nat, a < 41 → LG p l e s m b below meth c H locs (F0 m 33 ls [.int (nI a)]) := lt_s (p := fun a => LG p l e s m b below meth c H locs (F0 m 33 ls [.int (nI a)])) h_40 (lv_tableIn (off := 1201) (tgt := 1234) hx hb dL_law_33 (by decide) (by decide) (by decide) (by decide) (lc_40 C0 hK hM hI hJ hP hD hS hl hi hend))
  have h_42 : ∀ a : Nat, a < 42 → LG p l e s m b below meth c H locs (F0 m 33 ls [.int (nI a)]) := lt_s (p := fun a => LG p l e s m b below meth c H locs (F0 m 33 ls [.int (nI a)])) h_41 (lv_tableIn (off := 1214) (tgt := 1247) hx hb dL_law_33 (by decide) (by decide) (by decide) (by decide) (lc_41 C0 hK hM hI hJ hP hD hS hl hi hend))
  have h_43 : ∀ a : Nat, a < 43 → LG p l e s m b below meth c H locs (F0 m 33 ls [.int (nI a)]) := lt_s (p := fun a => LG p l e s m b below meth c H locs (F0 m 33 ls [.int (nI a)])) h_42 (lv_tableIn (off := 1227) (tgt := 1260) hx hb dL_law_33 (by decide) (by decide) (by decide) (by decide) (lc_42 C0 hK hM hI hJ hP hD hS hl hi hend))
  have h_44 : ∀ a : Nat, a < 44 → LG p l e s m b below meth c H locs (F0 m 33 ls [.int (nI a)]) := lt_s (p := fun a => LG p l e s m b below meth c H locs (F0 m 33 ls [.int (nI a)])) h_43 (lv_tableIn (off := 1240) (tgt := 1273) hx hb dL_law_33 (by decide) (by decide) (by decide) (by decide) (lc_43 C0 hK hM hI hJ hP hD hS hl hi hend))
  have h_45 : ∀ a : Nat, a < 45 → LG p l e s m b below meth c H locs (F0 m 33 ls [.int (nI a)]) := lt_s (p := fun a => LG p l e s m b below meth c H locs (F0 m 33 ls [.int (nI a)])) h_44 (lv_tableIn (off := 1253) (tgt := 1286) hx hb dL_law_33 (by decide) (by decide) (by decide) (by decide) (lc_44 C0 hK hM hI hJ hP hD hS hl hi hend))
  have h_46 : ∀ a : Nat, a < 46 → LG p l e s m b below meth c H locs (F0 m 33 ls [.int (nI a)]) := lt_s (p := fun a => LG p l e s m b below meth c H locs (F0 m 33 ls [.int (nI a)])) h_45 (lv_tableIn (off := 1266) (tgt := 1299) hx hb dL_law_33 (by decide) (by decide) (by decide) (by decide) (lc_45 C0 hK hM hI hJ hP hD hS hl hi hend))
  have h_47 : ∀ a : Nat, a < 47 → LG p l e s m b below meth c H locs (F0 m 33 ls [.int (nI a)]) := lt_s (p := fun a => LG p l e s m b below meth c H locs (F0 m 33 ls [.int (nI a)])) h_46 (lv_tableIn (off := 1279) (tgt := 1312) hx hb dL_law_33 (by decide) (by decide) (by decide) (by decide) (lc_46 C0 hK hM hI hJ hP hD hS hl hi hend))
  have h_48 : ∀ a : Nat, a < 48 → LG p l e s m b below meth c H locs (F0 m 33 ls [.int (nI a)]) := lt_s (p := fun a => LG p l e s m b below meth c H locs (F0 m 33 ls [.int (nI a)])) h_47 (lv_tableIn (off := 1302) (tgt := 1335) hx hb dL_law_33 (by decide) (by decide) (by decide) (by decide) (lc_47 C0 hK hM hI hJ hP hD hS hl hi hend))
  have h_49 : ∀ a : Nat, a < 49 → LG p l e s m b below meth c H locs (F0 m 33 ls [.int (nI a)]) := lt_s (p := fun a => LG p l e s m b below meth c H locs (F0 m 33 ls [.int (nI a)])) h_48 (lv_tableIn (off := 1315) (tgt := 1348) hx hb dL_law_33 (by decide) (by decide) (by decide) (by decide) (lc_48 C0 hK hM hI hJ hP hD hS hl hi hend))
  have h_50 : ∀ a : Nat, a < 50 → LG p l e s m b below meth c H locs (F0 m 33 ls [.int (nI a)]) := lt_s (p := fun a => LG p l e s m b below meth c H locs (F0 m 33 ls [.int (nI a)])) h_49 (lv_tableIn (off := 1328) (tgt := 1361) hx hb dL_law_33 (by decide) (by decide) (by decide) (by decide) (lc_49 C0 hK hM hI hJ hP hD hS hl hi hend))
  have h_51 : ∀ a : Nat, a < 51 → LG p l e s m b below meth c H locs (F0 m 33 ls [.int (nI a)]) := lt_s (p := fun a => LG p l e s m b below meth c H locs (F0 m 33 ls [.int (nI a)])) h_50 (lv_tableIn (off := 1341) (tgt := 1374) hx hb dL_law_33 (by decide) (by decide) (by decide) (by decide) (lc_50 C0 hK hM hI hJ hP hD hS hl hi hend))
  have h_52 : ∀ a : Nat, a < 52 → LG p l e s m b below meth c H locs (F0 m 33 ls [.int (nI a)]) := lt_s (p := fun a => LG p l e s m b below meth c H locs (F0 m 33 ls [.int (nI a)])) h_51 (lv_tableIn (off := 1354) (tgt := 1387) hx hb dL_law_33 (by decide) (by decide) (by decide) (by decide) (lc_51 C0 hK hM hI hJ hP hD hS hl hi hend))
  have h_53 : ∀ a : Nat, a < 53 → LG p l e s m b below meth c H locs (F0 m 33 ls [.int (nI a)]) := lt_s (p := fun a => LG p l e s m b below meth c H locs (F0 m 33 ls [.int (nI a)])) h_52 (lv_tableIn (off := 1377) (tgt := 1410) hx hb dL_law_33 (by decide) (by decide) (by decide) (by decide) (lc_52 C0 hK hM hI hJ hP hD hS hl hi hend))
  have h_54 : ∀ a : Nat, a < 54 → LG p l e s m b below meth c H locs (F0 m 33 ls [.int (nI a)]) := lt_s (p := fun a => LG p l e s m b below meth c H locs (F0 m 33 ls [.int (nI a)])) h_53 (lv_tableIn (off := 1410) (tgt := 1443) hx hb dL_law_33 (by decide) (by decide) (by decide) (by decide) (lc_53 C0 hK hM hI hJ hP hD hS hl hi hend))
  have h_55 : ∀ a : Nat, a < 55 → LG p l e s m b below meth c H locs (F0 m 33 ls [.int (nI a)]) := lt_s (p := fun a => LG p l e s m b below meth c H locs (F0 m 33 ls [.int (nI a)])) h_54 (lv_tableIn (off := 1433) (tgt := 1466) hx hb dL_law_33 (by decide) (by decide) (by decide) (by decide) (lc_54 C0 hK hM hI hJ hP hD hS hl hi hend))
  have h_56 : ∀ a : Nat, a < 56 → LG p l e s m b below meth c H locs (F0 m 33 ls [.int (nI a)]) := lt_s (p := fun a => LG p l e s m b below meth c H locs (F0 m 33 ls [.int (nI a)])) h_55 (lv_tableIn (off := 1456) (tgt := 1489) hx hb dL_law_33 (by decide) (by decide) (by decide) (by decide) (lc_55 C0 hK hM hI hJ hP hD hS hl hi hend))
  have h_57 : ∀ a : Nat, a < 57 → LG p l e s m b below meth c H locs (F0 m 33 ls [.int (nI a)]) := lt_s (p := fun a => LG p l e s m b below meth c H locs (F0 m 33 ls [.int (nI a)])) h_56 (lv_tableIn (off := 1479) (tgt := 1512) hx hb dL_law_33 (by decide) (by decide) (by decide) (by decide) (lc_56 C0 hK hM hI hJ hP hD hS hl hi hend))
  have h_58 : ∀ a : Nat, a < 58 → LG p l e s m b below meth c H locs (F0 m 33 ls [.int (nI a)]) := lt_s (p := fun a => LG p l e s m b below meth c H locs (F0 m 33 ls [.int (nI a)])) h_57 (lv_tableIn (off := 1512) (tgt := 1545) hx hb dL_law_33 (by decide) (by decide) (by decide) (by decide) (lc_57 C0 hK hM hI hJ hP hD hS hl hi hend))
  have h_59 : ∀ a : Nat, a < 59 → LG p l e s m b below meth c H locs (F0 m 33 ls [.int (nI a)]) := lt_s (p := fun a => LG p l e s m b below meth c H locs (F0 m 33 ls [.int (nI a)])) h_58 (lv_tableIn (off := 1545) (tgt := 1578) hx hb dL_law_33 (by decide) (by decide) (by decide) (by decide) (lc_58 C0 hK hM hI hJ hP hD hS hl hi hend))
  have h_60 : ∀ a : Nat, a < 60 → LG p l e s m b below meth c H locs (F0 m 33 ls [.int (nI a)]) := lt_s (p := fun a => LG p l e s m b below meth c H locs (F0 m 33 ls [.int (nI a)])) h_59 (lv_tableIn (off := 1598) (tgt := 1631) hx hb dL_law_33 (by decide) (by decide) (by decide) (by decide) (lc_59 C0 hK hM hI hJ hP hD hS hl hi hend))
  have h_61 : ∀ a : Nat, a < 61 → LG p l e s m b below meth c H locs (F0 m 33 ls [.int (nI a)]) := lt_s (p := fun a => LG p l e s m b below meth c H locs (F0 m 33 ls [.int (nI a)])) h_60 (lv_tableIn (off := 1641) (tgt := 1674) hx hb dL_law_33 (by decide) (by decide) (by decide) (by decide) (lc_60 C0 hK hM hI hJ hP hD hS hl hi hend))
  have h_62 : ∀ a : Nat, a < 62 → LG p l e s m b below meth c H locs (F0 m 33 ls [.int (nI a)]) := lt_s (p := fun a => LG p l e s m b below meth c H locs (F0 m 33 ls [.int (nI a)])) h_61 (lv_tableIn (off := 1674) (tgt := 1707) hx hb dL_law_33 (by decide) (by decide) (by decide) (by decide) (lc_61 C0 hK hM hI hJ hP hD hS hl hi hend))
  have h_63 : ∀ a : Nat, a < 63 → LG p l e s m b below meth c H locs (F0 m 33 ls [.int (nI a)]) := lt_s (p := fun a => LG p l e s m b below meth c H locs (F0 m 33 ls [.int (nI a)])) h_62 (lv_tableIn (off := 1717) (tgt := 1750) hx hb dL_law_33 (by decide) (by decide) (by decide) (by decide) (lc_62 C0 hK hM hI hJ hP hD hS hl hi hend))
  have h_64 : ∀ a : Nat, a < 64 → LG p l e s m b below meth c H locs (F0 m 33 ls [.int (nI a)]) := lt_s (p := fun a => LG p l e s m b below meth c H locs (F0 m 33 ls [.int (nI a)])) h_63 (lv_tableIn (off := 1750) (tgt := 1783) hx hb dL_law_33 (by decide) (by decide) (by decide) (by decide) (lc_63 C0 hK hM hI hJ hP hD hS hl hi hend))
  have h_65 : ∀ a : Nat, a < 65 → LG p l e s m b below meth c H locs (F0 m 33 ls [.int (nI a)]) := lt_s (p := fun a => LG p l e s m b below meth c H locs (F0 m 33 ls [.int (nI a)])) h_64 (lv_tableIn (off := 1763) (tgt := 1796) hx hb dL_law_33 (by decide) (by decide) (by decide) (by decide) (lc_64 C0 hK hM hI hJ hP hD hS hl hi hend))
  have h_66 : ∀ a : Nat, a < 66 → LG p l e s m b below meth c H locs (F0 m 33 ls [.int (nI a)]) := lt_s (p := fun a => LG p l e s m b below meth c H locs (F0 m 33 ls [.int (nI a)])) h_65 (lv_tableIn (off := 1776) (tgt := 1809) hx hb dL_law_33 (by decide) (by decide) (by decide) (by decide) (lc_65 C0 hK hM hI hJ hP hD hS hl hi hend))
  have h_67 : ∀ a : Nat, a < 67 → LG p l e s m b below meth c H locs (F0 m 33 ls [.int (nI a)]) := lt_s (p := fun a => LG p l e s m b below meth c H locs (F0 m 33 ls [.int (nI a)])) h_66 (lv_tableIn (off := 1809) (tgt := 1842) hx hb dL_law_33 (by decide) (by decide) (by decide) (by decide) (lc_66 C0 hK hM hI hJ hP hD hS hl hi hend))
  have h_68 : ∀ a : Nat, a < 68 → LG p l e s m b below meth c H locs (F0 m 33 ls [.int (nI a)]) := lt_s (p := fun a => LG p l e s m b below meth c H locs (F0 m 33 ls [.int (nI a)])) h_67 (lv_tableIn (off := 1842) (tgt := 1875) hx hb dL_law_33 (by decide) (by decide) (by decide) (by decide) (lc_67 C0 hK hM hI hJ hP hD hS hl hi hend))
  have h_69 : ∀ a : Nat, a < 69 → LG p l e s m b below meth c H locs (F0 m 33 ls [.int (nI a)]) := lt_s (p := fun a => LG p l e s m b below meth c H locs (F0 m 33 ls [.int (nI a)])) h_68 (lv_tableIn (off := 1865) (tgt := 1898) hx hb dL_law_33 (by decide) (by decide) (by decide) (by decide) (lc_68 C0 hK hM hI hJ hP hD hS hl hi hend))
  have h_70 : ∀ a : Nat, a < 70 → LG p l e s m b below meth c H locs (F0 m 33 ls [.int (nI a)]) := lt_s (p := fun a => LG p l e s m b below meth c H locs (F0 m 33 ls [.int (nI a)])) h_69 (lv_tableIn (off := 1888) (tgt := 1921) hx hb dL_law_33 (by decide) (by decide) (by decide) (by decide) (lc_69 C0 hK hM hI hJ hP hD hS hl hi hend))
  have h_71 : ∀ a : Nat, a < 71 → LG p l e s m b below meth c H locs (F0 m 33 ls [.int (nI a)]) := lt_s (p := fun a => LG p l e s m b below meth c H locs (F0 m 33 ls [.int (nI a)])) h_70 (lv_tableIn (off := 1911) (tgt := 1944) hx hb dL_law_33 (by decide) (by decide) (by decide) (by decide) (lc_70 C0 hK hM hI hJ hP hD hS hl hi hend))
  have h_72 : ∀ a : Nat, a < 72 → LG p l e s m b below meth c H locs (F0 m 33 ls [.int (nI a)]) := lt_s (p := fun a => LG p l e s m b below meth c H locs (F0 m 33 ls [.int (nI a)])) h_71 (lv_tableIn (off := 1934) (tgt := 1967) hx hb dL_law_33 (by decide) (by decide) (by decide) (by decide) (lc_71 C0 hK hM hI hJ hP hD hS hl hi hend))
  have h_73 : ∀ a : Nat, a < 73 → LG p l e s m b below meth c H locs (F0 m 33 ls [.int (nI a)]) := lt_s (p := fun a => LG p l e s m b below meth c H locs (F0 m 33 ls [.int (nI a)])) h_72 (lv_tableIn (off := 1977) (tgt := 2010) hx hb dL_law_33 (by decide) (by decide) (by decide) (by decide) (lc_72 C0 hK hM hI hJ hP hD hS hl hi hend))
  have h_74 : ∀ a : Nat, a < 74 → LG p l e s m b below meth c H locs (F0 m 33 ls [.int (nI a)]) := lt_s (p := fun a => LG p l e s m b below meth c H locs (F0 m 33 ls [.int (nI a)])) h_73 (lv_tableIn (off := 2050) (tgt := 2083) hx hb dL_law_33 (by decide) (by decide) (by decide) (by decide) (lc_73 C0 hK hM hI hJ hP hD hS hl hi hend))
  rcases Nat.lt_or_ge j 74 with h | h
  · exact h_74 j h
  · exact lv_tableOut (tgt := 2146) hx hb dL_law_33 (Or.inr (by rw [nI_toInt (by omega)]; omega)) (by decide) (hend _ _ _ _ hI hJ hP hD hS hl)
set_option maxRecDepth 100000 in
set_option maxHeartbeats 4000000 in
theorem law_loop {p : Program} {l : Launch} {e : Env} {s : State} {m : MethodId} {below : List Frame} {meth : Method} {c : Code} {dC : Nat → ClassId} {dI : Nat → Nat → Nat} {b L : Nat} {xs : Nat → Int32} {ρ : Nat → Nat} {σ : Nat → Option Nat} {a : Nat → ClassId} (C0 : lw_At p s m meth c b L xs) (hL : L ≤ 384) (hK : va_K (dC, dI) vwCl (tysP a) s) (hM : AMB σ (fun q : Nat => s.heap.size ≤ q) s s.heap) : ∀ (n : Nat) (i : Int32) (H : Heap) (locs : List Loc) (ls : Array Slot) (h : PH), (400 - i.toInt).toNat < n → 0 ≤ i.toInt ∧ i.toInt ≤ 390 → INV h → REL h → va_P (dC, dI) vwCl (toW ρ a h) H → va_D (fun q : Nat => s.heap.size ≤ q) (toW ρ a h) → va_S (fun q : Nat => s.heap.size ≤ q) s.heap H locs → lv_has ls 4 [(0, .ref b), (1, .ref (ρ 0)), (2, .ref (ρ 96)), (3, .int i)] → LG p l e s m b below meth c H locs (F0 m 18 ls []) := by
  intro n
  induction n with
  | zero => intro i H locs ls h hz; exact absurd hz (Nat.not_lt_zero _)
  | succ n ih =>
    intro i H locs ls h hz hi0 hI hJ hP hD hS hl
    obtain ⟨hx, hb, hr, hml, hown, hts, hX, hbl, hlocks, hgv⟩ := id C0
    have hbA : ¬ (fun q : Nat => s.heap.size ≤ q) b := Nat.not_le.mpr hbl
    refine lv_iload_n hx hb dL_law_18 rfl (lv_at hl 3 rfl) ?_
    refine lv_aload_n hx hb dL_law_19 rfl (lv_at hl 0 rfl) ?_
    refine va_slen hx hb hX hbl hbA hS dL_law_20 ?_
    refine lv_bipush (v := 6) hx hb dL_law_21 (by decide) ?_
    refine lv_isub hx hb dL_law_23 ?_
    refine lv_icmp_gt (tgt := 2152) hx hb dL_law_24 (by decide) (fun _ => law_end C0 hS) (fun c9 => ?_)
    have hi6 := L_cmp hL c9
    have hi : 0 ≤ i.toInt ∧ i.toInt + 6 ≤ (L : Int) ∧ L ≤ 384 := ⟨hi0.1, hi6, hL⟩
    refine lv_aload_n hx hb dL_law_27 rfl (lv_at hl 0 rfl) ?_
    refine lv_iload_n hx hb dL_law_28 rfl (lv_at hl 3 rfl) ?_
    refine va_sld hx hb hX hbl hbA hS (vp_of ⟨hi0.1, by omega⟩) dL_law_29 ?_
    refine lv_bipush (v := 127) hx hb dL_law_30 (by decide) ?_
    refine lv_iand hx hb dL_law_32 ?_
    obtain ⟨j, hj, ej⟩ := pk_andE (xs i.toNatClampNeg) (m := 127) 7 (by decide)
    refine t_i (nI j) ej ?_
    refine law_sw C0 hK hM hI hJ hP hD hS hl hi (fun H locs ls h hI hJ hP hD hS hl => ?_) j hj
    have e6 : (i + 6).toInt = i.toInt + 6 := i_add rfl (by decide) (by omega)
    refine lv_iinc (v := i + 6) (lv' := [(3, .int (i + 6)), (0, .ref b), (1, .ref (ρ 0)), (2, .ref (ρ 96))]) hx hb dL_law_2146 hl (k := 3) rfl (by rfl) (by decide) rfl (fun ls hl => ?_)
    refine lv_goto (tgt := 18) hx hb dL_law_2149 (by decide) ?_
    exact ih (i + 6) H locs ls h (by omega) (by omega) hI hJ hP hD hS (lv_sub hl [1, 2, 3, 0] rfl)

theorem REL_ph0 : REL ph0 := ⟨fun j _ => rfl, fun j _ => rfl, fun j _ => rfl⟩
theorem NW_law : ∀ q ∈ nestL, Cond.methodLinkNest q.1 q.2.1 q.2.2 RX8 ∈ lw_tbl := by decide +kernel
theorem AO_law : Cond.arrayOver (.object RX1) ∈ lw_tbl := List.mem_append_right _ (List.mem_of_getElem? (i := 131) (by decide +kernel))
theorem r_all (w v : va_W) : (List.range w.length).map (fun i => (w ++ v)[i]?) = w.map some := by
  apply List.ext_getElem?
  intro i
  rw [List.getElem?_map, List.getElem?_map]
  rcases Nat.lt_or_ge i w.length with h | h
  · rw [List.getElem?_range h, List.getElem?_eq_getElem h]
    show some ((w ++ v)[i]?) = some (some w[i])
    rw [List.getElem?_append_left h, List.getElem?_eq_getElem h]
  · rw [List.getElem?_eq_none (by rw [List.length_range]; exact h), List.getElem?_eq_none h]
    rfl
theorem r_last (w : va_W) (x : Nat × va_E) : (w ++ [x])[w.length]? = some x := by simp
set_option maxRecDepth 100000 in
set_option maxHeartbeats 8000000 in
theorem whole_start {p : Program} {e : Env} {s : State} {m : MethodId} {below : List Frame} {meth : Method} {c : Code} (l : Launch) {b L : Nat} {xs : Nat → Int32} (hL : L ≤ 384) (C0 : lw_At p s m meth c b L xs) : W p l e room_1 s m #[Value.ref b] below meth c s.heap [] 0 0 (lw_Z below #[Value.ref b] s) (entryFrame m ([Value.ref b] : List Value).toArray 4) := by
  obtain ⟨hx, hb, hr, hml, hown, hts, hX, hbl, hlocks, hgv⟩ := id C0
  have hT : ∀ w ∈ TB, w.before #[Value.ref b] s = true := fun w h => hts w (TB_lw h)
  have hown : s.vm.findClass RL = some m.cls := hown
  have hA : ∀ q : Nat, s.heap.size ≤ q → (fun q : Nat => s.heap.size ≤ q) q := fun _ h => h
  have hbA : ¬ (fun q : Nat => s.heap.size ≤ q) b := Nat.not_le.mpr hbl
  have hN : NW s := ⟨fun q hq => va_Nw.of rfl (hts _ (NW_law q hq)), va_AO.of (hts _ AO_law)⟩
  obtain ⟨σ, hM⟩ := amb_start hts hgv
  obtain ⟨c0, iS0, hKn0⟩ := u_known (C := RX0) (T := TX0) (N := 3) (n := 3) hT inT0 (hT _ mw_116)
  obtain ⟨c1, iS1, hKn1⟩ := u_known (C := RX1) (T := TX1) (N := 11) (n := 11) hT inT1 (hT _ mw_29)
  obtain ⟨c2, iS2, hKn2⟩ := u_known (C := RX2) (T := TX2) (N := 10) (n := 10) hT inT2 (hT _ mw_63)
  obtain ⟨c3, iS3, hKn3⟩ := u_known (C := RX3) (T := TX3) (N := 9) (n := 9) hT inT3 (hT _ mw_100)
  obtain ⟨c4, iS4, hKn4⟩ := u_known (C := RX4) (T := TX4) (N := 7) (n := 7) hT inT4 (hT _ mw_4)
  obtain ⟨c5, iS5, hKn5⟩ := u_known (C := RX5) (T := TX5) (N := 3) (n := 3) hT inT5 (hT _ mw_53)
  obtain ⟨c6, iS6, hKn6⟩ := u_known (C := RX6) (T := TX6) (N := 13) (n := 13) hT inT6 (hT _ mw_80)
  obtain ⟨c7, iS7, hKn7⟩ := u_known (C := RX7) (T := TX7) (N := 2) (n := 2) hT inT7 (hT _ mw_8)
  obtain ⟨c8, iS8, hKn8⟩ := u_known (C := RX8) (T := TX8) (N := 14) (n := 14) hT inT8 (hT _ mw_165)
  obtain ⟨c9, iS9, hKn9⟩ := u_known (C := RX9) (T := TX9) (N := 61) (n := 61) hT inT9 (hT _ mw_166)
  obtain ⟨dC, dI, hKc⟩ : ∃ (dC : Nat → ClassId) (dI : Nat → Nat → Nat), ∀ (k : Nat) (q : vw_C), vwCl[k]? = some q → u_Kn s q.1 q.2.1 q.2.2 (dC k) (dI k) := by
    refine ⟨fun k => ([c0, c1, c2, c3, c4, c5, c6, c7, c8, c9] : List Nat).getD k 0, fun k => ([iS0, iS1, iS2, iS3, iS4, iS5, iS6, iS7, iS8, iS9] : List (Nat → Nat)).getD k (fun _ => 0), ?_⟩
    intro k q hq
    match k, hq with
    | 0, hq => cases hq; exact hKn0
    | 1, hq => cases hq; exact hKn1
    | 2, hq => cases hq; exact hKn2
    | 3, hq => cases hq; exact hKn3
    | 4, hq => cases hq; exact hKn4
    | 5, hq => cases hq; exact hKn5
    | 6, hq => cases hq; exact hKn6
    | 7, hq => cases hq; exact hKn7
    | 8, hq => cases hq; exact hKn8
    | 9, hq => cases hq; exact hKn9
    | k + 10, hq => simp [vwCl] at hq
  have hS : va_S (fun q : Nat => s.heap.size ≤ q) s.heap s.heap [] := va_S.rf
  have hK : va_K (dC, dI) vwCl [] s := ⟨hKc, fun k q h => by simp at h⟩
  have hP : va_P (dC, dI) vwCl [] s.heap := fun k q h => by simp at h
  have hD : va_D (fun q : Nat => s.heap.size ≤ q) [] := ⟨fun i j p q h => by simp at h, fun k q h => by simp at h⟩
  have hl := lv_entry ([.ref b]) (n := 4) (Nat.le_of_ble_eq_true rfl)
  rw [lg_entry_eq]
  generalize (lg_sl ([.ref b]) ++ List.replicate (4 - (lg_sl ([.ref b])).length) Slot.unset).toArray = ls at hl ⊢
  have hl : lv_has ls 4 [(0, .ref b)] := hl
  refine va_new (ci := 8) (fs := [.null, .null, .null, .null, .null, .null, .null, .null, .null, .null, .null, .int 0, .int 0, .int 0]) (C := RX8) (T := TX8) (N := 14) hx hb hT inT8 tyX8 tyX8_ok hown (hT _ mw_167) (hT _ mw_165) (hT _ mw_168) hK hP hD hS hA rfl (by decide +kernel) (Nat.le_of_ble_eq_true rfl) (Nat.le_of_ble_eq_true rfl) dL_law_0 (fun q1 H hP hD hS => ?_)
  have hP : va_P (dC, dI) vwCl [(q1, .inr (8, [.null, .null, .null, .null, .null, .null, .null, .null, .null, .null, .null, .int 0, .int 0, .int 0]))] H := hP
  have hD : va_D (fun q : Nat => s.heap.size ≤ q) [(q1, .inr (8, [.null, .null, .null, .null, .null, .null, .null, .null, .null, .null, .null, .int 0, .int 0, .int 0]))] := hD
  refine W.widen (k := 1) (n := 14) (Nat.le_of_ble_eq_true rfl) (Nat.le_of_ble_eq_true rfl) ?_
  refine lv_dup hx hb dL_law_3 rfl ?_
  refine c_ID (own := RL) (rest := [.ref q1]) (wr := []) ⟨hx, hb, hml, hown, hT⟩ (k_X8_init l dC dI q1) hN hK hP hD hS hA [0] [] rfl rfl rfl rfl (by decide) mw_169 mw_170 mw_168 mw_171 rfl (by decide +kernel) ⟨Nat.le_of_ble_eq_true rfl, Nat.le_of_ble_eq_true rfl⟩ ⟨rfl, rfl⟩ hl.1 (Nat.le_of_ble_eq_true rfl) dL_law_4 ⟨Nat.le_of_ble_eq_true rfl, Nat.le_of_ble_eq_true rfl⟩ (fun ux H locs hpu hK hP hD hS => ?_)
  obtain ⟨gx, ax⟩ := ux
  have hpu : gx 0 = q1 := hpu
  have hPx : va_P (dC, dI) vwCl (wX gx ax) H := hP
  have hDx : va_D (fun q : Nat => s.heap.size ≤ q) (wX gx ax) := hD
  have hKx : va_K (dC, dI) vwCl (tX ax) s := hK
  have hP := hPx
  have hD := hDx
  have hK := hKx
  refine W.widen (k := 96) (n := 4990) (Nat.le_of_ble_eq_true rfl) (Nat.le_of_ble_eq_true rfl) ?_
  refine t_v (.ref (gx 0)) (by rw [hpu]) ?_
  refine lv_astore_n (lv' := [(1, .ref (gx 0)), (0, .ref b)]) hx hb dL_law_7 rfl hl (by decide) rfl (fun ls hl => ?_)
  refine va_new (ci := 9) (fs := [.int 0, .null, .null, .null, .null, .int 0, .null, .int 0, .int 0, .int 0, .int 0, .int 0, .int 0, .int 0, .null, .null, .null, .null, .int 0, .int 0, .int 0, .null, .null, .null, .null, .null, .null, .null, .null, .null, .null, .null, .null, .null, .int 0, .int 0, .int 0, .null, .null, .null, .null, .int 0, .int 0, .int 0, .int 0, .null, .int 0, .int 0, .int 0, .null, .null, .int 0, .int 0, .null, .long 0, .long 0, .long 0, .null, .null, .null, .null]) (C := RX9) (T := TX9) (N := 61) hx hb hT inT9 tyX9 tyX9_ok hown (hT _ mw_172) (hT _ mw_166) (hT _ mw_173) hK hP hD hS hA rfl (by decide +kernel) (Nat.le_of_ble_eq_true rfl) (Nat.le_of_ble_eq_true rfl) dL_law_8 (fun q2 H hP hD hS => ?_)
  have hP : va_P (dC, dI) vwCl (wX gx ax ++ [(q2, .inr (9, [.int 0, .null, .null, .null, .null, .int 0, .null, .int 0, .int 0, .int 0, .int 0, .int 0, .int 0, .int 0, .null, .null, .null, .null, .int 0, .int 0, .int 0, .null, .null, .null, .null, .null, .null, .null, .null, .null, .null, .null, .null, .null, .int 0, .int 0, .int 0, .null, .null, .null, .null, .int 0, .int 0, .int 0, .int 0, .null, .int 0, .int 0, .int 0, .null, .null, .int 0, .int 0, .null, .long 0, .long 0, .long 0, .null, .null, .null, .null]))]) H := hP
  have hD : va_D (fun q : Nat => s.heap.size ≤ q) (wX gx ax ++ [(q2, .inr (9, [.int 0, .null, .null, .null, .null, .int 0, .null, .int 0, .int 0, .int 0, .int 0, .int 0, .int 0, .int 0, .null, .null, .null, .null, .int 0, .int 0, .int 0, .null, .null, .null, .null, .null, .null, .null, .null, .null, .null, .null, .null, .null, .int 0, .int 0, .int 0, .null, .null, .null, .null, .int 0, .int 0, .int 0, .int 0, .null, .int 0, .int 0, .int 0, .null, .null, .int 0, .int 0, .null, .long 0, .long 0, .long 0, .null, .null, .null, .null]))]) := hD
  refine W.widen (k := 97) (n := 5051) (Nat.le_of_ble_eq_true rfl) (Nat.le_of_ble_eq_true rfl) ?_
  refine lv_dup hx hb dL_law_11 rfl ?_
  have eR : (List.range 96).map (fun i => (wX gx ax ++ [(q2, .inr (9, [.int 0, .null, .null, .null, .null, .int 0, .null, .int 0, .int 0, .int 0, .int 0, .int 0, .int 0, .int 0, .null, .null, .null, .null, .int 0, .int 0, .int 0, .null, .null, .null, .null, .null, .null, .null, .null, .null, .null, .null, .null, .null, .int 0, .int 0, .int 0, .null, .null, .null, .null, .int 0, .int 0, .int 0, .int 0, .null, .int 0, .int 0, .int 0, .null, .null, .int 0, .int 0, .null, .long 0, .long 0, .long 0, .null, .null, .null, .null]))])[i]?) = (wX gx ax).map some := r_all (wX gx ax) _
  have eC : [96].map (fun i => (wX gx ax ++ [(q2, .inr (9, [.int 0, .null, .null, .null, .null, .int 0, .null, .int 0, .int 0, .int 0, .int 0, .int 0, .int 0, .int 0, .null, .null, .null, .null, .int 0, .int 0, .int 0, .null, .null, .null, .null, .null, .null, .null, .null, .null, .null, .null, .null, .null, .int 0, .int 0, .int 0, .null, .null, .null, .null, .int 0, .int 0, .int 0, .int 0, .null, .int 0, .int 0, .int 0, .null, .null, .int 0, .int 0, .null, .long 0, .long 0, .long 0, .null, .null, .null, .null]))])[i]?) = [(q2, .inr (9, [.int 0, .null, .null, .null, .null, .int 0, .null, .int 0, .int 0, .int 0, .int 0, .int 0, .int 0, .int 0, .null, .null, .null, .null, .int 0, .int 0, .int 0, .null, .null, .null, .null, .null, .null, .null, .null, .null, .null, .null, .null, .null, .int 0, .int 0, .int 0, .null, .null, .null, .null, .int 0, .int 0, .int 0, .int 0, .null, .int 0, .int 0, .int 0, .null, .null, .int 0, .int 0, .null, .long 0, .long 0, .long 0, .null, .null, .null, .null]))].map some := congrArg (fun z => [z]) (r_last (wX gx ax) _)
  refine c_ID (own := RL) (rest := [.ref q2]) (wr := (wX gx ax)) ⟨hx, hb, hml, hown, hT⟩ (k_X9_init l dC dI q2) hN hK hP hD hS hA [96] (List.range 96) eC eR rfl (by decide) (by decide) mw_174 mw_175 mw_173 mw_176 rfl (by decide +kernel) ⟨Nat.le_of_ble_eq_true rfl, Nat.le_of_ble_eq_true rfl⟩ ⟨rfl, rfl⟩ hl.1 (Nat.le_of_ble_eq_true rfl) dL_law_12 ⟨Nat.le_of_ble_eq_true rfl, Nat.le_of_ble_eq_true rfl⟩ (fun um H locs hpu hK hP hD hS => ?_)
  obtain ⟨gm, am⟩ := um
  have hpu : gm 0 = q2 := hpu
  have hPx : va_P (dC, dI) vwCl (wX gx ax ++ wM gm am) H := hP
  have hDx : va_D (fun q : Nat => s.heap.size ≤ q) (wX gx ax ++ wM gm am) := hD
  have hKx : va_K (dC, dI) vwCl (tX ax ++ tM am) s := hK
  refine W.widen (k := 131) (n := 55420) (Nat.le_of_ble_eq_true rfl) (Nat.le_of_ble_eq_true rfl) ?_
  refine t_v (.ref (gm 0)) (by rw [hpu]) ?_
  refine lv_astore_n (lv' := [(2, .ref (gm 0)), (1, .ref (gx 0)), (0, .ref b)]) hx hb dL_law_15 rfl hl (by decide) rfl (fun ls hl => ?_)
  refine lv_iconst (v := 0) hx hb dL_law_16 (by decide) ?_
  refine lv_istore_n (lv' := [(3, .int 0), (2, .ref (gm 0)), (1, .ref (gx 0)), (0, .ref b)]) hx hb dL_law_17 rfl hl (by decide) rfl (fun ls hl => ?_)
  obtain ⟨hK, hP, hD⟩ := bridge hKx hPx hDx
  exact law_loop (ρ := rho gx gm) (σ := σ) (a := clA ax) C0 hL hK hM _ 0 H locs ls ph0 (Nat.lt_succ_self _) (by decide) INV_ph0 REL_ph0 hP hD hS (lv_sub hl [3, 2, 1, 0] rfl)
