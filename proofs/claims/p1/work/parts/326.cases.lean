set_option maxRecDepth 100000 in
set_option maxHeartbeats 4000000 in
theorem lc_60 {p : Program} {l : Launch} {e : Env} {s : State} {m : MethodId} {below : List Frame} {meth : Method} {c : Code} {dC : Nat → ClassId} {dI : Nat → Nat → Nat} {b : Nat} {xs : Nat → Int32} {H : Heap} {locs : List Loc} {ls : Array Slot} (gx : Nat → Nat) (ax : Nat → ClassId) (gm : Nat → Nat) (am : Nat → ClassId) (C0 : lw_At p s m meth c b 6 xs) (hK : va_K (dC, dI) vwCl (tX ax ++ tM am) s) (hP : va_P (dC, dI) vwCl (wX gx ax ++ wM gm am) H) (hD : va_D (fun q : Nat => s.heap.size ≤ q) (wX gx ax ++ wM gm am)) (hS : va_S (fun q : Nat => s.heap.size ≤ q) s.heap H locs) (hl : lv_has ls 4 [(0, .ref b), (1, .ref (gx 0)), (2, .ref (gm 0)), (3, .int 0)]) (hend : (∀ (H : Heap) (locs : List Loc) (ls : Array Slot), va_S (fun q : Nat => s.heap.size ≤ q) s.heap H locs → lv_has ls 4 [(0, .ref b), (1, .ref (gx 0)), (2, .ref (gm 0)), (3, .int 0)] → LG p l e s m b below meth c H locs (F0 m 2148 ls []))) : LG p l e s m b below meth c H locs (F0 m 1675 ls []) := by
  obtain ⟨hx, hb, hr, hml, hown, hts, hX, hbl, hlocks, hgv⟩ := C0
  have hT : ∀ w ∈ TB, w.before #[Value.ref b] s = true := fun w h => hts w (TB_lw h)
  have hown : s.vm.findClass RL = some m.cls := hown
  have hA : ∀ q : Nat, s.heap.size ≤ q → (fun q : Nat => s.heap.size ≤ q) q := fun _ h => h
  have hbA : ¬ (fun q : Nat => s.heap.size ≤ q) b := Nat.not_le.mpr hbl
  refine lv_aload_n hx hb dL_law_1675 rfl (lv_at hl 1 rfl) ?_
  refine lv_aload_n hx hb dL_law_1676 rfl (lv_at hl 0 rfl) ?_
  refine lv_iload_n hx hb dL_law_1677 rfl (lv_at hl 3 rfl) ?_
  refine lv_iconst (v := 1) hx hb dL_law_1678 (by decide) ?_
  refine lv_iadd hx hb dL_law_1679 ?_
  refine t_i 1 (by decide) ?_
  refine va_sld hx hb hX hbl hbA hS (by unfold vp_in; decide) dL_law_1680 ?_
  refine lv_aload_n hx hb dL_law_1681 rfl (lv_at hl 0 rfl) ?_
  refine lv_iload_n hx hb dL_law_1682 rfl (lv_at hl 3 rfl) ?_
  refine lv_iconst (v := 2) hx hb dL_law_1683 (by decide) ?_
  refine lv_iadd hx hb dL_law_1684 ?_
  refine t_i 2 (by decide) ?_
  refine va_sld hx hb hX hbl hbA hS (by unfold vp_in; decide) dL_law_1685 ?_
  refine c_Vl (C := RX8) (As := [.int (xs (1 : Int32).toNatClampNeg), .int (xs (2 : Int32).toNatClampNeg)]) (rest := []) (wr := (wM gm am)) (n := 2) ⟨hx, hb, hml, hown, hT⟩ (k_X8_mean l dC dI gx ax (xs (1 : Int32).toNatClampNeg) (xs (2 : Int32).toNatClampNeg)) hK hP hD hS hA [12] rfl [0, 16, 17] [74, 75, 76, 77, 78, 79, 80, 81, 82, 83, 84, 85, 86, 87] rfl rfl rfl rfl (by decide) rfl rfl mw_882 mw_883 mw_884 mw_69 mw_885 (by decide +kernel) ⟨Nat.le_of_ble_eq_true rfl, Nat.le_of_ble_eq_true rfl⟩ ⟨rfl, rfl⟩ rfl hl.1 (Nat.le_of_ble_eq_true rfl) rfl dL_law_1686 ⟨Nat.le_of_ble_eq_true rfl, Nat.le_of_ble_eq_true rfl⟩ (fun r1 f1 H locs er1 hP hD hS => ?_)
  have er1 : r1 = (-2) := er1
  have hP : va_P (dC, dI) vwCl (wM gm am) H := hP
  have hD : va_D (fun q : Nat => s.heap.size ≤ q) (wM gm am) := hD
  refine lv_aload_n hx hb dL_law_1689 rfl (lv_at hl 2 rfl) ?_
  refine lv_aload_n hx hb dL_law_1690 rfl (lv_at hl 0 rfl) ?_
  refine lv_iload_n hx hb dL_law_1691 rfl (lv_at hl 3 rfl) ?_
  refine lv_iconst (v := 1) hx hb dL_law_1692 (by decide) ?_
  refine lv_iadd hx hb dL_law_1693 ?_
  refine t_i 1 (by decide) ?_
  refine va_sld hx hb hX hbl hbA hS (by unfold vp_in; decide) dL_law_1694 ?_
  refine lv_aload_n hx hb dL_law_1695 rfl (lv_at hl 0 rfl) ?_
  refine lv_iload_n hx hb dL_law_1696 rfl (lv_at hl 3 rfl) ?_
  refine lv_iconst (v := 2) hx hb dL_law_1697 (by decide) ?_
  refine lv_iadd hx hb dL_law_1698 ?_
  refine t_i 2 (by decide) ?_
  refine va_sld hx hb hX hbl hbA hS (by unfold vp_in; decide) dL_law_1699 ?_
  refine c_Vl (C := RX9) (As := [.int (xs (1 : Int32).toNatClampNeg), .int (xs (2 : Int32).toNatClampNeg)]) (rest := [.long r1]) (wr := []) (n := 2) ⟨hx, hb, hml, hown, hT⟩ (k_X9_mean l dC dI gm am (xs (1 : Int32).toNatClampNeg) (xs (2 : Int32).toNatClampNeg)) hK hP hD hS hA [63] rfl [0, 1] [] rfl rfl rfl rfl (by decide) rfl rfl mw_886 mw_887 mw_888 mw_19 mw_889 (by decide +kernel) ⟨Nat.le_of_ble_eq_true rfl, Nat.le_of_ble_eq_true rfl⟩ ⟨rfl, rfl⟩ rfl hl.1 (Nat.le_of_ble_eq_true rfl) rfl dL_law_1700 ⟨Nat.le_of_ble_eq_true rfl, Nat.le_of_ble_eq_true rfl⟩ (fun r2 f2 H locs er2 hP hD hS => ?_)
  have er2 : r2 = (-2) := er2
  refine W.lcmp hx hb dL_law_1703 ?_
  exact lv_if_eq (tgt := 2148) hx hb dL_law_1704 (by decide) (fun _ => hend _ _ _ hS hl) (fun c9 => absurd ((lg_cmp_eq r1 r2).mpr (er1.trans er2.symm)) c9)
set_option maxRecDepth 100000 in
set_option maxHeartbeats 4000000 in
theorem lc_61 {p : Program} {l : Launch} {e : Env} {s : State} {m : MethodId} {below : List Frame} {meth : Method} {c : Code} {dC : Nat → ClassId} {dI : Nat → Nat → Nat} {b : Nat} {xs : Nat → Int32} {H : Heap} {locs : List Loc} {ls : Array Slot} (gx : Nat → Nat) (ax : Nat → ClassId) (gm : Nat → Nat) (am : Nat → ClassId) (C0 : lw_At p s m meth c b 6 xs) (hK : va_K (dC, dI) vwCl (tX ax ++ tM am) s) (hP : va_P (dC, dI) vwCl (wX gx ax ++ wM gm am) H) (hD : va_D (fun q : Nat => s.heap.size ≤ q) (wX gx ax ++ wM gm am)) (hS : va_S (fun q : Nat => s.heap.size ≤ q) s.heap H locs) (hl : lv_has ls 4 [(0, .ref b), (1, .ref (gx 0)), (2, .ref (gm 0)), (3, .int 0)]) (hend : (∀ (H : Heap) (locs : List Loc) (ls : Array Slot), va_S (fun q : Nat => s.heap.size ≤ q) s.heap H locs → lv_has ls 4 [(0, .ref b), (1, .ref (gx 0)), (2, .ref (gm 0)), (3, .int 0)] → LG p l e s m b below meth c H locs (F0 m 2148 ls []))) : LG p l e s m b below meth c H locs (F0 m 1709 ls []) := by
  obtain ⟨hx, hb, hr, hml, hown, hts, hX, hbl, hlocks, hgv⟩ := C0
  have hT : ∀ w ∈ TB, w.before #[Value.ref b] s = true := fun w h => hts w (TB_lw h)
  have hown : s.vm.findClass RL = some m.cls := hown
  have hA : ∀ q : Nat, s.heap.size ≤ q → (fun q : Nat => s.heap.size ≤ q) q := fun _ h => h
  have hbA : ¬ (fun q : Nat => s.heap.size ≤ q) b := Nat.not_le.mpr hbl
  refine lv_aload_n hx hb dL_law_1709 rfl (lv_at hl 1 rfl) ?_
  refine lv_aload_n hx hb dL_law_1710 rfl (lv_at hl 0 rfl) ?_
  refine lv_iload_n hx hb dL_law_1711 rfl (lv_at hl 3 rfl) ?_
  refine lv_iconst (v := 1) hx hb dL_law_1712 (by decide) ?_
  refine lv_iadd hx hb dL_law_1713 ?_
  refine t_i 1 (by decide) ?_
  refine va_sld hx hb hX hbl hbA hS (by unfold vp_in; decide) dL_law_1714 ?_
  refine lv_aload_n hx hb dL_law_1715 rfl (lv_at hl 0 rfl) ?_
  refine lv_iload_n hx hb dL_law_1716 rfl (lv_at hl 3 rfl) ?_
  refine lv_iconst (v := 2) hx hb dL_law_1717 (by decide) ?_
  refine lv_iadd hx hb dL_law_1718 ?_
  refine t_i 2 (by decide) ?_
  refine va_sld hx hb hX hbl hbA hS (by unfold vp_in; decide) dL_law_1719 ?_
  refine lv_aload_n hx hb dL_law_1720 rfl (lv_at hl 0 rfl) ?_
  refine lv_iload_n hx hb dL_law_1721 rfl (lv_at hl 3 rfl) ?_
  refine lv_iconst (v := 3) hx hb dL_law_1722 (by decide) ?_
  refine lv_iadd hx hb dL_law_1723 ?_
  refine t_i 3 (by decide) ?_
  refine va_sld hx hb hX hbl hbA hS (by unfold vp_in; decide) dL_law_1724 ?_
  refine c_Vi (C := RX8) (As := [.int (xs (1 : Int32).toNatClampNeg), .int (xs (2 : Int32).toNatClampNeg), .int (xs (3 : Int32).toNatClampNeg)]) (rest := []) (wr := (wM gm am)) (n := 3) ⟨hx, hb, hml, hown, hT⟩ (k_X8_rest l dC dI gx ax (xs (1 : Int32).toNatClampNeg) (xs (2 : Int32).toNatClampNeg) (xs (3 : Int32).toNatClampNeg)) hK hP hD hS hA [12] rfl [0, 16, 17] [74, 75, 76, 77, 78, 79, 80, 81, 82, 83, 84, 85, 86, 87] rfl rfl rfl rfl (by decide) rfl rfl mw_890 mw_891 mw_892 mw_69 mw_893 (by decide +kernel) ⟨Nat.le_of_ble_eq_true rfl, Nat.le_of_ble_eq_true rfl⟩ ⟨rfl, rfl⟩ rfl hl.1 (Nat.le_of_ble_eq_true rfl) rfl dL_law_1725 ⟨Nat.le_of_ble_eq_true rfl, Nat.le_of_ble_eq_true rfl⟩ (fun r1 f1 H locs er1 hP hD hS => ?_)
  have er1 : r1 = (-2) := er1
  have hP : va_P (dC, dI) vwCl (wM gm am) H := hP
  have hD : va_D (fun q : Nat => s.heap.size ≤ q) (wM gm am) := hD
  refine lv_aload_n hx hb dL_law_1728 rfl (lv_at hl 2 rfl) ?_
  refine lv_aload_n hx hb dL_law_1729 rfl (lv_at hl 0 rfl) ?_
  refine lv_iload_n hx hb dL_law_1730 rfl (lv_at hl 3 rfl) ?_
  refine lv_iconst (v := 1) hx hb dL_law_1731 (by decide) ?_
  refine lv_iadd hx hb dL_law_1732 ?_
  refine t_i 1 (by decide) ?_
  refine va_sld hx hb hX hbl hbA hS (by unfold vp_in; decide) dL_law_1733 ?_
  refine lv_aload_n hx hb dL_law_1734 rfl (lv_at hl 0 rfl) ?_
  refine lv_iload_n hx hb dL_law_1735 rfl (lv_at hl 3 rfl) ?_
  refine lv_iconst (v := 2) hx hb dL_law_1736 (by decide) ?_
  refine lv_iadd hx hb dL_law_1737 ?_
  refine t_i 2 (by decide) ?_
  refine va_sld hx hb hX hbl hbA hS (by unfold vp_in; decide) dL_law_1738 ?_
  refine lv_aload_n hx hb dL_law_1739 rfl (lv_at hl 0 rfl) ?_
  refine lv_iload_n hx hb dL_law_1740 rfl (lv_at hl 3 rfl) ?_
  refine lv_iconst (v := 3) hx hb dL_law_1741 (by decide) ?_
  refine lv_iadd hx hb dL_law_1742 ?_
  refine t_i 3 (by decide) ?_
  refine va_sld hx hb hX hbl hbA hS (by unfold vp_in; decide) dL_law_1743 ?_
  refine c_Vi (C := RX9) (As := [.int (xs (1 : Int32).toNatClampNeg), .int (xs (2 : Int32).toNatClampNeg), .int (xs (3 : Int32).toNatClampNeg)]) (rest := [.int r1]) (wr := []) (n := 3) ⟨hx, hb, hml, hown, hT⟩ (k_X9_rest l dC dI gm am (xs (1 : Int32).toNatClampNeg) (xs (2 : Int32).toNatClampNeg) (xs (3 : Int32).toNatClampNeg)) hK hP hD hS hA [63] rfl [0, 1] [] rfl rfl rfl rfl (by decide) rfl rfl mw_894 mw_895 mw_896 mw_19 mw_897 (by decide +kernel) ⟨Nat.le_of_ble_eq_true rfl, Nat.le_of_ble_eq_true rfl⟩ ⟨rfl, rfl⟩ rfl hl.1 (Nat.le_of_ble_eq_true rfl) rfl dL_law_1744 ⟨Nat.le_of_ble_eq_true rfl, Nat.le_of_ble_eq_true rfl⟩ (fun r2 f2 H locs er2 hP hD hS => ?_)
  have er2 : r2 = (-2) := er2
  exact lv_icmp_eq (tgt := 2148) hx hb dL_law_1747 (by decide) (fun _ => hend _ _ _ hS hl) (fun c9 => absurd (er1.trans er2.symm) c9)
set_option maxRecDepth 100000 in
set_option maxHeartbeats 4000000 in
theorem lc_62 {p : Program} {l : Launch} {e : Env} {s : State} {m : MethodId} {below : List Frame} {meth : Method} {c : Code} {dC : Nat → ClassId} {dI : Nat → Nat → Nat} {b : Nat} {xs : Nat → Int32} {H : Heap} {locs : List Loc} {ls : Array Slot} (gx : Nat → Nat) (ax : Nat → ClassId) (gm : Nat → Nat) (am : Nat → ClassId) (C0 : lw_At p s m meth c b 6 xs) (hK : va_K (dC, dI) vwCl (tX ax ++ tM am) s) (hP : va_P (dC, dI) vwCl (wX gx ax ++ wM gm am) H) (hD : va_D (fun q : Nat => s.heap.size ≤ q) (wX gx ax ++ wM gm am)) (hS : va_S (fun q : Nat => s.heap.size ≤ q) s.heap H locs) (hl : lv_has ls 4 [(0, .ref b), (1, .ref (gx 0)), (2, .ref (gm 0)), (3, .int 0)]) (hend : (∀ (H : Heap) (locs : List Loc) (ls : Array Slot), va_S (fun q : Nat => s.heap.size ≤ q) s.heap H locs → lv_has ls 4 [(0, .ref b), (1, .ref (gx 0)), (2, .ref (gm 0)), (3, .int 0)] → LG p l e s m b below meth c H locs (F0 m 2148 ls []))) : LG p l e s m b below meth c H locs (F0 m 1752 ls []) := by
  obtain ⟨hx, hb, hr, hml, hown, hts, hX, hbl, hlocks, hgv⟩ := C0
  have hT : ∀ w ∈ TB, w.before #[Value.ref b] s = true := fun w h => hts w (TB_lw h)
  have hown : s.vm.findClass RL = some m.cls := hown
  have hA : ∀ q : Nat, s.heap.size ≤ q → (fun q : Nat => s.heap.size ≤ q) q := fun _ h => h
  have hbA : ¬ (fun q : Nat => s.heap.size ≤ q) b := Nat.not_le.mpr hbl
  refine lv_aload_n hx hb dL_law_1752 rfl (lv_at hl 1 rfl) ?_
  refine lv_aload_n hx hb dL_law_1753 rfl (lv_at hl 0 rfl) ?_
  refine lv_iload_n hx hb dL_law_1754 rfl (lv_at hl 3 rfl) ?_
  refine lv_iconst (v := 1) hx hb dL_law_1755 (by decide) ?_
  refine lv_iadd hx hb dL_law_1756 ?_
  refine t_i 1 (by decide) ?_
  refine va_sld hx hb hX hbl hbA hS (by unfold vp_in; decide) dL_law_1757 ?_
  refine lv_aload_n hx hb dL_law_1758 rfl (lv_at hl 0 rfl) ?_
  refine lv_iload_n hx hb dL_law_1759 rfl (lv_at hl 3 rfl) ?_
  refine lv_iconst (v := 2) hx hb dL_law_1760 (by decide) ?_
  refine lv_iadd hx hb dL_law_1761 ?_
  refine t_i 2 (by decide) ?_
  refine va_sld hx hb hX hbl hbA hS (by unfold vp_in; decide) dL_law_1762 ?_
  refine c_Vi (C := RX8) (As := [.int (xs (1 : Int32).toNatClampNeg), .int (xs (2 : Int32).toNatClampNeg)]) (rest := []) (wr := (wM gm am)) (n := 2) ⟨hx, hb, hml, hown, hT⟩ (k_X8_paces l dC dI gx ax (xs (1 : Int32).toNatClampNeg) (xs (2 : Int32).toNatClampNeg)) hK hP hD hS hA [12] rfl [0, 16, 17] [74, 75, 76, 77, 78, 79, 80, 81, 82, 83, 84, 85, 86, 87] rfl rfl rfl rfl (by decide) rfl rfl mw_898 mw_899 mw_900 mw_69 mw_901 (by decide +kernel) ⟨Nat.le_of_ble_eq_true rfl, Nat.le_of_ble_eq_true rfl⟩ ⟨rfl, rfl⟩ rfl hl.1 (Nat.le_of_ble_eq_true rfl) rfl dL_law_1763 ⟨Nat.le_of_ble_eq_true rfl, Nat.le_of_ble_eq_true rfl⟩ (fun r1 f1 H locs er1 hP hD hS => ?_)
  have er1 : r1 = (-2) := er1
  have hP : va_P (dC, dI) vwCl (wM gm am) H := hP
  have hD : va_D (fun q : Nat => s.heap.size ≤ q) (wM gm am) := hD
  refine lv_aload_n hx hb dL_law_1766 rfl (lv_at hl 2 rfl) ?_
  refine lv_aload_n hx hb dL_law_1767 rfl (lv_at hl 0 rfl) ?_
  refine lv_iload_n hx hb dL_law_1768 rfl (lv_at hl 3 rfl) ?_
  refine lv_iconst (v := 1) hx hb dL_law_1769 (by decide) ?_
  refine lv_iadd hx hb dL_law_1770 ?_
  refine t_i 1 (by decide) ?_
  refine va_sld hx hb hX hbl hbA hS (by unfold vp_in; decide) dL_law_1771 ?_
  refine lv_aload_n hx hb dL_law_1772 rfl (lv_at hl 0 rfl) ?_
  refine lv_iload_n hx hb dL_law_1773 rfl (lv_at hl 3 rfl) ?_
  refine lv_iconst (v := 2) hx hb dL_law_1774 (by decide) ?_
  refine lv_iadd hx hb dL_law_1775 ?_
  refine t_i 2 (by decide) ?_
  refine va_sld hx hb hX hbl hbA hS (by unfold vp_in; decide) dL_law_1776 ?_
  refine c_Vi (C := RX9) (As := [.int (xs (1 : Int32).toNatClampNeg), .int (xs (2 : Int32).toNatClampNeg)]) (rest := [.int r1]) (wr := []) (n := 2) ⟨hx, hb, hml, hown, hT⟩ (k_X9_paces l dC dI gm am (xs (1 : Int32).toNatClampNeg) (xs (2 : Int32).toNatClampNeg)) hK hP hD hS hA [63] rfl [0, 1] [] rfl rfl rfl rfl (by decide) rfl rfl mw_902 mw_903 mw_904 mw_19 mw_905 (by decide +kernel) ⟨Nat.le_of_ble_eq_true rfl, Nat.le_of_ble_eq_true rfl⟩ ⟨rfl, rfl⟩ rfl hl.1 (Nat.le_of_ble_eq_true rfl) rfl dL_law_1777 ⟨Nat.le_of_ble_eq_true rfl, Nat.le_of_ble_eq_true rfl⟩ (fun r2 f2 H locs er2 hP hD hS => ?_)
  have er2 : r2 = (-2) := er2
  exact lv_icmp_eq (tgt := 2148) hx hb dL_law_1780 (by decide) (fun _ => hend _ _ _ hS hl) (fun c9 => absurd (er1.trans er2.symm) c9)
set_option maxRecDepth 100000 in
set_option maxHeartbeats 4000000 in
theorem lc_63 {p : Program} {l : Launch} {e : Env} {s : State} {m : MethodId} {below : List Frame} {meth : Method} {c : Code} {dC : Nat → ClassId} {dI : Nat → Nat → Nat} {b : Nat} {xs : Nat → Int32} {H : Heap} {locs : List Loc} {ls : Array Slot} (gx : Nat → Nat) (ax : Nat → ClassId) (gm : Nat → Nat) (am : Nat → ClassId) (C0 : lw_At p s m meth c b 6 xs) (hK : va_K (dC, dI) vwCl (tX ax ++ tM am) s) (hP : va_P (dC, dI) vwCl (wX gx ax ++ wM gm am) H) (hD : va_D (fun q : Nat => s.heap.size ≤ q) (wX gx ax ++ wM gm am)) (hS : va_S (fun q : Nat => s.heap.size ≤ q) s.heap H locs) (hl : lv_has ls 4 [(0, .ref b), (1, .ref (gx 0)), (2, .ref (gm 0)), (3, .int 0)]) (hend : (∀ (H : Heap) (locs : List Loc) (ls : Array Slot), va_S (fun q : Nat => s.heap.size ≤ q) s.heap H locs → lv_has ls 4 [(0, .ref b), (1, .ref (gx 0)), (2, .ref (gm 0)), (3, .int 0)] → LG p l e s m b below meth c H locs (F0 m 2148 ls []))) : LG p l e s m b below meth c H locs (F0 m 1785 ls []) := by
  obtain ⟨hx, hb, hr, hml, hown, hts, hX, hbl, hlocks, hgv⟩ := C0
  have hT : ∀ w ∈ TB, w.before #[Value.ref b] s = true := fun w h => hts w (TB_lw h)
  have hown : s.vm.findClass RL = some m.cls := hown
  have hA : ∀ q : Nat, s.heap.size ≤ q → (fun q : Nat => s.heap.size ≤ q) q := fun _ h => h
  have hbA : ¬ (fun q : Nat => s.heap.size ≤ q) b := Nat.not_le.mpr hbl
  refine lv_aload_n hx hb dL_law_1785 rfl (lv_at hl 1 rfl) ?_
  refine c_Vi (C := RX8) (As := []) (rest := []) (wr := (wM gm am)) (n := 0) ⟨hx, hb, hml, hown, hT⟩ (k_X8_undo l dC dI gx ax ) hK hP hD hS hA [12] rfl [0, 16, 17] [74, 75, 76, 77, 78, 79, 80, 81, 82, 83, 84, 85, 86, 87] rfl rfl rfl rfl (by decide) rfl rfl mw_906 mw_907 mw_908 mw_69 mw_909 (by decide +kernel) ⟨Nat.le_of_ble_eq_true rfl, Nat.le_of_ble_eq_true rfl⟩ ⟨rfl, rfl⟩ rfl hl.1 (Nat.le_of_ble_eq_true rfl) rfl dL_law_1786 ⟨Nat.le_of_ble_eq_true rfl, Nat.le_of_ble_eq_true rfl⟩ (fun r1 f1 H locs er1 hP hD hS => ?_)
  have er1 : r1 = (-2) := er1
  have hP : va_P (dC, dI) vwCl (wM gm am) H := hP
  have hD : va_D (fun q : Nat => s.heap.size ≤ q) (wM gm am) := hD
  refine lv_aload_n hx hb dL_law_1789 rfl (lv_at hl 2 rfl) ?_
  refine c_Vi (C := RX9) (As := []) (rest := [.int r1]) (wr := []) (n := 0) ⟨hx, hb, hml, hown, hT⟩ (k_X9_undo l dC dI gm am ) hK hP hD hS hA [63] rfl [0, 1] [] rfl rfl rfl rfl (by decide) rfl rfl mw_910 mw_911 mw_912 mw_19 mw_913 (by decide +kernel) ⟨Nat.le_of_ble_eq_true rfl, Nat.le_of_ble_eq_true rfl⟩ ⟨rfl, rfl⟩ rfl hl.1 (Nat.le_of_ble_eq_true rfl) rfl dL_law_1790 ⟨Nat.le_of_ble_eq_true rfl, Nat.le_of_ble_eq_true rfl⟩ (fun r2 f2 H locs er2 hP hD hS => ?_)
  have er2 : r2 = (-2) := er2
  exact lv_icmp_eq (tgt := 2148) hx hb dL_law_1793 (by decide) (fun _ => hend _ _ _ hS hl) (fun c9 => absurd (er1.trans er2.symm) c9)
set_option maxRecDepth 100000 in
set_option maxHeartbeats 4000000 in
theorem lc_64 {p : Program} {l : Launch} {e : Env} {s : State} {m : MethodId} {below : List Frame} {meth : Method} {c : Code} {dC : Nat → ClassId} {dI : Nat → Nat → Nat} {b : Nat} {xs : Nat → Int32} {H : Heap} {locs : List Loc} {ls : Array Slot} (gx : Nat → Nat) (ax : Nat → ClassId) (gm : Nat → Nat) (am : Nat → ClassId) (C0 : lw_At p s m meth c b 6 xs) (hK : va_K (dC, dI) vwCl (tX ax ++ tM am) s) (hP : va_P (dC, dI) vwCl (wX gx ax ++ wM gm am) H) (hD : va_D (fun q : Nat => s.heap.size ≤ q) (wX gx ax ++ wM gm am)) (hS : va_S (fun q : Nat => s.heap.size ≤ q) s.heap H locs) (hl : lv_has ls 4 [(0, .ref b), (1, .ref (gx 0)), (2, .ref (gm 0)), (3, .int 0)]) (hend : (∀ (H : Heap) (locs : List Loc) (ls : Array Slot), va_S (fun q : Nat => s.heap.size ≤ q) s.heap H locs → lv_has ls 4 [(0, .ref b), (1, .ref (gx 0)), (2, .ref (gm 0)), (3, .int 0)] → LG p l e s m b below meth c H locs (F0 m 2148 ls []))) : LG p l e s m b below meth c H locs (F0 m 1798 ls []) := by
  obtain ⟨hx, hb, hr, hml, hown, hts, hX, hbl, hlocks, hgv⟩ := C0
  have hT : ∀ w ∈ TB, w.before #[Value.ref b] s = true := fun w h => hts w (TB_lw h)
  have hown : s.vm.findClass RL = some m.cls := hown
  have hA : ∀ q : Nat, s.heap.size ≤ q → (fun q : Nat => s.heap.size ≤ q) q := fun _ h => h
  have hbA : ¬ (fun q : Nat => s.heap.size ≤ q) b := Nat.not_le.mpr hbl
  refine lv_aload_n hx hb dL_law_1798 rfl (lv_at hl 1 rfl) ?_
  refine c_Vi (C := RX8) (As := []) (rest := []) (wr := (wM gm am)) (n := 0) ⟨hx, hb, hml, hown, hT⟩ (k_X8_anew l dC dI gx ax ) hK hP hD hS hA [12] rfl [0, 16, 17] [74, 75, 76, 77, 78, 79, 80, 81, 82, 83, 84, 85, 86, 87] rfl rfl rfl rfl (by decide) rfl rfl mw_914 mw_915 mw_916 mw_69 mw_917 (by decide +kernel) ⟨Nat.le_of_ble_eq_true rfl, Nat.le_of_ble_eq_true rfl⟩ ⟨rfl, rfl⟩ rfl hl.1 (Nat.le_of_ble_eq_true rfl) rfl dL_law_1799 ⟨Nat.le_of_ble_eq_true rfl, Nat.le_of_ble_eq_true rfl⟩ (fun r1 f1 H locs er1 hP hD hS => ?_)
  have er1 : r1 = (-2) := er1
  have hP : va_P (dC, dI) vwCl (wM gm am) H := hP
  have hD : va_D (fun q : Nat => s.heap.size ≤ q) (wM gm am) := hD
  refine lv_aload_n hx hb dL_law_1802 rfl (lv_at hl 2 rfl) ?_
  refine c_Vi (C := RX9) (As := []) (rest := [.int r1]) (wr := []) (n := 0) ⟨hx, hb, hml, hown, hT⟩ (k_X9_anew l dC dI gm am ) hK hP hD hS hA [63] rfl [0, 1] [] rfl rfl rfl rfl (by decide) rfl rfl mw_918 mw_919 mw_920 mw_19 mw_921 (by decide +kernel) ⟨Nat.le_of_ble_eq_true rfl, Nat.le_of_ble_eq_true rfl⟩ ⟨rfl, rfl⟩ rfl hl.1 (Nat.le_of_ble_eq_true rfl) rfl dL_law_1803 ⟨Nat.le_of_ble_eq_true rfl, Nat.le_of_ble_eq_true rfl⟩ (fun r2 f2 H locs er2 hP hD hS => ?_)
  have er2 : r2 = (-2) := er2
  exact lv_icmp_eq (tgt := 2148) hx hb dL_law_1806 (by decide) (fun _ => hend _ _ _ hS hl) (fun c9 => absurd (er1.trans er2.symm) c9)
set_option maxRecDepth 100000 in
set_option maxHeartbeats 4000000 in
theorem lc_65 {p : Program} {l : Launch} {e : Env} {s : State} {m : MethodId} {below : List Frame} {meth : Method} {c : Code} {dC : Nat → ClassId} {dI : Nat → Nat → Nat} {b : Nat} {xs : Nat → Int32} {H : Heap} {locs : List Loc} {ls : Array Slot} (gx : Nat → Nat) (ax : Nat → ClassId) (gm : Nat → Nat) (am : Nat → ClassId) (C0 : lw_At p s m meth c b 6 xs) (hK : va_K (dC, dI) vwCl (tX ax ++ tM am) s) (hP : va_P (dC, dI) vwCl (wX gx ax ++ wM gm am) H) (hD : va_D (fun q : Nat => s.heap.size ≤ q) (wX gx ax ++ wM gm am)) (hS : va_S (fun q : Nat => s.heap.size ≤ q) s.heap H locs) (hl : lv_has ls 4 [(0, .ref b), (1, .ref (gx 0)), (2, .ref (gm 0)), (3, .int 0)]) (hend : (∀ (H : Heap) (locs : List Loc) (ls : Array Slot), va_S (fun q : Nat => s.heap.size ≤ q) s.heap H locs → lv_has ls 4 [(0, .ref b), (1, .ref (gx 0)), (2, .ref (gm 0)), (3, .int 0)] → LG p l e s m b below meth c H locs (F0 m 2148 ls []))) : LG p l e s m b below meth c H locs (F0 m 1811 ls []) := by
  obtain ⟨hx, hb, hr, hml, hown, hts, hX, hbl, hlocks, hgv⟩ := C0
  have hT : ∀ w ∈ TB, w.before #[Value.ref b] s = true := fun w h => hts w (TB_lw h)
  have hown : s.vm.findClass RL = some m.cls := hown
  have hA : ∀ q : Nat, s.heap.size ≤ q → (fun q : Nat => s.heap.size ≤ q) q := fun _ h => h
  have hbA : ¬ (fun q : Nat => s.heap.size ≤ q) b := Nat.not_le.mpr hbl
  refine lv_aload_n hx hb dL_law_1811 rfl (lv_at hl 1 rfl) ?_
  refine lv_aload_n hx hb dL_law_1812 rfl (lv_at hl 0 rfl) ?_
  refine lv_iload_n hx hb dL_law_1813 rfl (lv_at hl 3 rfl) ?_
  refine lv_iconst (v := 1) hx hb dL_law_1814 (by decide) ?_
  refine lv_iadd hx hb dL_law_1815 ?_
  refine t_i 1 (by decide) ?_
  refine va_sld hx hb hX hbl hbA hS (by unfold vp_in; decide) dL_law_1816 ?_
  refine lv_aload_n hx hb dL_law_1817 rfl (lv_at hl 0 rfl) ?_
  refine lv_iload_n hx hb dL_law_1818 rfl (lv_at hl 3 rfl) ?_
  refine lv_iconst (v := 2) hx hb dL_law_1819 (by decide) ?_
  refine lv_iadd hx hb dL_law_1820 ?_
  refine t_i 2 (by decide) ?_
  refine va_sld hx hb hX hbl hbA hS (by unfold vp_in; decide) dL_law_1821 ?_
  refine c_Vi (C := RX8) (As := [.int (xs (1 : Int32).toNatClampNeg), .int (xs (2 : Int32).toNatClampNeg)]) (rest := []) (wr := (wM gm am)) (n := 2) ⟨hx, hb, hml, hown, hT⟩ (k_X8_drawn l dC dI gx ax (xs (1 : Int32).toNatClampNeg) (xs (2 : Int32).toNatClampNeg)) hK hP hD hS hA [12] rfl [0, 16, 17] [74, 75, 76, 77, 78, 79, 80, 81, 82, 83, 84, 85, 86, 87] rfl rfl rfl rfl (by decide) rfl rfl mw_922 mw_923 mw_924 mw_69 mw_925 (by decide +kernel) ⟨Nat.le_of_ble_eq_true rfl, Nat.le_of_ble_eq_true rfl⟩ ⟨rfl, rfl⟩ rfl hl.1 (Nat.le_of_ble_eq_true rfl) rfl dL_law_1822 ⟨Nat.le_of_ble_eq_true rfl, Nat.le_of_ble_eq_true rfl⟩ (fun r1 f1 H locs er1 hP hD hS => ?_)
  have er1 : r1 = (-2) := er1
  have hP : va_P (dC, dI) vwCl (wM gm am) H := hP
  have hD : va_D (fun q : Nat => s.heap.size ≤ q) (wM gm am) := hD
  refine lv_aload_n hx hb dL_law_1825 rfl (lv_at hl 2 rfl) ?_
  refine lv_aload_n hx hb dL_law_1826 rfl (lv_at hl 0 rfl) ?_
  refine lv_iload_n hx hb dL_law_1827 rfl (lv_at hl 3 rfl) ?_
  refine lv_iconst (v := 1) hx hb dL_law_1828 (by decide) ?_
  refine lv_iadd hx hb dL_law_1829 ?_
  refine t_i 1 (by decide) ?_
  refine va_sld hx hb hX hbl hbA hS (by unfold vp_in; decide) dL_law_1830 ?_
  refine lv_aload_n hx hb dL_law_1831 rfl (lv_at hl 0 rfl) ?_
  refine lv_iload_n hx hb dL_law_1832 rfl (lv_at hl 3 rfl) ?_
  refine lv_iconst (v := 2) hx hb dL_law_1833 (by decide) ?_
  refine lv_iadd hx hb dL_law_1834 ?_
  refine t_i 2 (by decide) ?_
  refine va_sld hx hb hX hbl hbA hS (by unfold vp_in; decide) dL_law_1835 ?_
  refine c_Vi (C := RX9) (As := [.int (xs (1 : Int32).toNatClampNeg), .int (xs (2 : Int32).toNatClampNeg)]) (rest := [.int r1]) (wr := []) (n := 2) ⟨hx, hb, hml, hown, hT⟩ (k_X9_drawn l dC dI gm am (xs (1 : Int32).toNatClampNeg) (xs (2 : Int32).toNatClampNeg)) hK hP hD hS hA [63] rfl [0, 1] [] rfl rfl rfl rfl (by decide) rfl rfl mw_926 mw_927 mw_928 mw_19 mw_929 (by decide +kernel) ⟨Nat.le_of_ble_eq_true rfl, Nat.le_of_ble_eq_true rfl⟩ ⟨rfl, rfl⟩ rfl hl.1 (Nat.le_of_ble_eq_true rfl) rfl dL_law_1836 ⟨Nat.le_of_ble_eq_true rfl, Nat.le_of_ble_eq_true rfl⟩ (fun r2 f2 H locs er2 hP hD hS => ?_)
  have er2 : r2 = (-2) := er2
  exact lv_icmp_eq (tgt := 2148) hx hb dL_law_1839 (by decide) (fun _ => hend _ _ _ hS hl) (fun c9 => absurd (er1.trans er2.symm) c9)
set_option maxRecDepth 100000 in
set_option maxHeartbeats 4000000 in
theorem lc_66 {p : Program} {l : Launch} {e : Env} {s : State} {m : MethodId} {below : List Frame} {meth : Method} {c : Code} {dC : Nat → ClassId} {dI : Nat → Nat → Nat} {b : Nat} {xs : Nat → Int32} {H : Heap} {locs : List Loc} {ls : Array Slot} (gx : Nat → Nat) (ax : Nat → ClassId) (gm : Nat → Nat) (am : Nat → ClassId) (C0 : lw_At p s m meth c b 6 xs) (hK : va_K (dC, dI) vwCl (tX ax ++ tM am) s) (hP : va_P (dC, dI) vwCl (wX gx ax ++ wM gm am) H) (hD : va_D (fun q : Nat => s.heap.size ≤ q) (wX gx ax ++ wM gm am)) (hS : va_S (fun q : Nat => s.heap.size ≤ q) s.heap H locs) (hl : lv_has ls 4 [(0, .ref b), (1, .ref (gx 0)), (2, .ref (gm 0)), (3, .int 0)]) (hend : (∀ (H : Heap) (locs : List Loc) (ls : Array Slot), va_S (fun q : Nat => s.heap.size ≤ q) s.heap H locs → lv_has ls 4 [(0, .ref b), (1, .ref (gx 0)), (2, .ref (gm 0)), (3, .int 0)] → LG p l e s m b below meth c H locs (F0 m 2148 ls []))) : LG p l e s m b below meth c H locs (F0 m 1844 ls []) := by
  obtain ⟨hx, hb, hr, hml, hown, hts, hX, hbl, hlocks, hgv⟩ := C0
  have hT : ∀ w ∈ TB, w.before #[Value.ref b] s = true := fun w h => hts w (TB_lw h)
  have hown : s.vm.findClass RL = some m.cls := hown
  have hA : ∀ q : Nat, s.heap.size ≤ q → (fun q : Nat => s.heap.size ≤ q) q := fun _ h => h
  have hbA : ¬ (fun q : Nat => s.heap.size ≤ q) b := Nat.not_le.mpr hbl
  refine lv_aload_n hx hb dL_law_1844 rfl (lv_at hl 1 rfl) ?_
  refine lv_aload_n hx hb dL_law_1845 rfl (lv_at hl 0 rfl) ?_
  refine lv_iload_n hx hb dL_law_1846 rfl (lv_at hl 3 rfl) ?_
  refine lv_iconst (v := 1) hx hb dL_law_1847 (by decide) ?_
  refine lv_iadd hx hb dL_law_1848 ?_
  refine t_i 1 (by decide) ?_
  refine va_sld hx hb hX hbl hbA hS (by unfold vp_in; decide) dL_law_1849 ?_
  refine lv_aload_n hx hb dL_law_1850 rfl (lv_at hl 0 rfl) ?_
  refine lv_iload_n hx hb dL_law_1851 rfl (lv_at hl 3 rfl) ?_
  refine lv_iconst (v := 2) hx hb dL_law_1852 (by decide) ?_
  refine lv_iadd hx hb dL_law_1853 ?_
  refine t_i 2 (by decide) ?_
  refine va_sld hx hb hX hbl hbA hS (by unfold vp_in; decide) dL_law_1854 ?_
  refine c_Vi (C := RX8) (As := [.int (xs (1 : Int32).toNatClampNeg), .int (xs (2 : Int32).toNatClampNeg)]) (rest := []) (wr := (wM gm am)) (n := 2) ⟨hx, hb, hml, hown, hT⟩ (k_X8_luck l dC dI gx ax (xs (1 : Int32).toNatClampNeg) (xs (2 : Int32).toNatClampNeg)) hK hP hD hS hA [12] rfl [0, 16, 17] [74, 75, 76, 77, 78, 79, 80, 81, 82, 83, 84, 85, 86, 87] rfl rfl rfl rfl (by decide) rfl rfl mw_930 mw_931 mw_932 mw_69 mw_933 (by decide +kernel) ⟨Nat.le_of_ble_eq_true rfl, Nat.le_of_ble_eq_true rfl⟩ ⟨rfl, rfl⟩ rfl hl.1 (Nat.le_of_ble_eq_true rfl) rfl dL_law_1855 ⟨Nat.le_of_ble_eq_true rfl, Nat.le_of_ble_eq_true rfl⟩ (fun r1 f1 H locs er1 hP hD hS => ?_)
  have er1 : r1 = (-2) := er1
  have hP : va_P (dC, dI) vwCl (wM gm am) H := hP
  have hD : va_D (fun q : Nat => s.heap.size ≤ q) (wM gm am) := hD
  refine lv_aload_n hx hb dL_law_1858 rfl (lv_at hl 2 rfl) ?_
  refine lv_aload_n hx hb dL_law_1859 rfl (lv_at hl 0 rfl) ?_
  refine lv_iload_n hx hb dL_law_1860 rfl (lv_at hl 3 rfl) ?_
  refine lv_iconst (v := 1) hx hb dL_law_1861 (by decide) ?_
  refine lv_iadd hx hb dL_law_1862 ?_
  refine t_i 1 (by decide) ?_
  refine va_sld hx hb hX hbl hbA hS (by unfold vp_in; decide) dL_law_1863 ?_
  refine lv_aload_n hx hb dL_law_1864 rfl (lv_at hl 0 rfl) ?_
  refine lv_iload_n hx hb dL_law_1865 rfl (lv_at hl 3 rfl) ?_
  refine lv_iconst (v := 2) hx hb dL_law_1866 (by decide) ?_
  refine lv_iadd hx hb dL_law_1867 ?_
  refine t_i 2 (by decide) ?_
  refine va_sld hx hb hX hbl hbA hS (by unfold vp_in; decide) dL_law_1868 ?_
  refine c_Vi (C := RX9) (As := [.int (xs (1 : Int32).toNatClampNeg), .int (xs (2 : Int32).toNatClampNeg)]) (rest := [.int r1]) (wr := []) (n := 2) ⟨hx, hb, hml, hown, hT⟩ (k_X9_luck l dC dI gm am (xs (1 : Int32).toNatClampNeg) (xs (2 : Int32).toNatClampNeg)) hK hP hD hS hA [63] rfl [0, 1] [] rfl rfl rfl rfl (by decide) rfl rfl mw_934 mw_935 mw_936 mw_19 mw_937 (by decide +kernel) ⟨Nat.le_of_ble_eq_true rfl, Nat.le_of_ble_eq_true rfl⟩ ⟨rfl, rfl⟩ rfl hl.1 (Nat.le_of_ble_eq_true rfl) rfl dL_law_1869 ⟨Nat.le_of_ble_eq_true rfl, Nat.le_of_ble_eq_true rfl⟩ (fun r2 f2 H locs er2 hP hD hS => ?_)
  have er2 : r2 = (-2) := er2
  exact lv_icmp_eq (tgt := 2148) hx hb dL_law_1872 (by decide) (fun _ => hend _ _ _ hS hl) (fun c9 => absurd (er1.trans er2.symm) c9)
set_option maxRecDepth 100000 in
set_option maxHeartbeats 4000000 in
theorem lc_67 {p : Program} {l : Launch} {e : Env} {s : State} {m : MethodId} {below : List Frame} {meth : Method} {c : Code} {dC : Nat → ClassId} {dI : Nat → Nat → Nat} {b : Nat} {xs : Nat → Int32} {H : Heap} {locs : List Loc} {ls : Array Slot} (gx : Nat → Nat) (ax : Nat → ClassId) (gm : Nat → Nat) (am : Nat → ClassId) (C0 : lw_At p s m meth c b 6 xs) (hK : va_K (dC, dI) vwCl (tX ax ++ tM am) s) (hP : va_P (dC, dI) vwCl (wX gx ax ++ wM gm am) H) (hD : va_D (fun q : Nat => s.heap.size ≤ q) (wX gx ax ++ wM gm am)) (hS : va_S (fun q : Nat => s.heap.size ≤ q) s.heap H locs) (hl : lv_has ls 4 [(0, .ref b), (1, .ref (gx 0)), (2, .ref (gm 0)), (3, .int 0)]) (hend : (∀ (H : Heap) (locs : List Loc) (ls : Array Slot), va_S (fun q : Nat => s.heap.size ≤ q) s.heap H locs → lv_has ls 4 [(0, .ref b), (1, .ref (gx 0)), (2, .ref (gm 0)), (3, .int 0)] → LG p l e s m b below meth c H locs (F0 m 2148 ls []))) : LG p l e s m b below meth c H locs (F0 m 1877 ls []) := by
  obtain ⟨hx, hb, hr, hml, hown, hts, hX, hbl, hlocks, hgv⟩ := C0
  have hT : ∀ w ∈ TB, w.before #[Value.ref b] s = true := fun w h => hts w (TB_lw h)
  have hown : s.vm.findClass RL = some m.cls := hown
  have hA : ∀ q : Nat, s.heap.size ≤ q → (fun q : Nat => s.heap.size ≤ q) q := fun _ h => h
  have hbA : ¬ (fun q : Nat => s.heap.size ≤ q) b := Nat.not_le.mpr hbl
  refine lv_aload_n hx hb dL_law_1877 rfl (lv_at hl 1 rfl) ?_
  refine lv_aload_n hx hb dL_law_1878 rfl (lv_at hl 0 rfl) ?_
  refine lv_iload_n hx hb dL_law_1879 rfl (lv_at hl 3 rfl) ?_
  refine lv_iconst (v := 1) hx hb dL_law_1880 (by decide) ?_
  refine lv_iadd hx hb dL_law_1881 ?_
  refine t_i 1 (by decide) ?_
  refine va_sld hx hb hX hbl hbA hS (by unfold vp_in; decide) dL_law_1882 ?_
  refine c_Vi (C := RX8) (As := [.int (xs (1 : Int32).toNatClampNeg)]) (rest := []) (wr := (wM gm am)) (n := 1) ⟨hx, hb, hml, hown, hT⟩ (k_X8_fills l dC dI gx ax (xs (1 : Int32).toNatClampNeg)) hK hP hD hS hA [12] rfl [0, 16, 17] [74, 75, 76, 77, 78, 79, 80, 81, 82, 83, 84, 85, 86, 87] rfl rfl rfl rfl (by decide) rfl rfl mw_938 mw_939 mw_940 mw_69 mw_941 (by decide +kernel) ⟨Nat.le_of_ble_eq_true rfl, Nat.le_of_ble_eq_true rfl⟩ ⟨rfl, rfl⟩ rfl hl.1 (Nat.le_of_ble_eq_true rfl) rfl dL_law_1883 ⟨Nat.le_of_ble_eq_true rfl, Nat.le_of_ble_eq_true rfl⟩ (fun r1 f1 H locs er1 hP hD hS => ?_)
  have er1 : r1 = (-2) := er1
  have hP : va_P (dC, dI) vwCl (wM gm am) H := hP
  have hD : va_D (fun q : Nat => s.heap.size ≤ q) (wM gm am) := hD
  refine lv_aload_n hx hb dL_law_1886 rfl (lv_at hl 2 rfl) ?_
  refine lv_aload_n hx hb dL_law_1887 rfl (lv_at hl 0 rfl) ?_
  refine lv_iload_n hx hb dL_law_1888 rfl (lv_at hl 3 rfl) ?_
  refine lv_iconst (v := 1) hx hb dL_law_1889 (by decide) ?_
  refine lv_iadd hx hb dL_law_1890 ?_
  refine t_i 1 (by decide) ?_
  refine va_sld hx hb hX hbl hbA hS (by unfold vp_in; decide) dL_law_1891 ?_
  refine c_Vi (C := RX9) (As := [.int (xs (1 : Int32).toNatClampNeg)]) (rest := [.int r1]) (wr := []) (n := 1) ⟨hx, hb, hml, hown, hT⟩ (k_X9_fills l dC dI gm am (xs (1 : Int32).toNatClampNeg)) hK hP hD hS hA [63] rfl [0, 1] [] rfl rfl rfl rfl (by decide) rfl rfl mw_942 mw_943 mw_944 mw_19 mw_945 (by decide +kernel) ⟨Nat.le_of_ble_eq_true rfl, Nat.le_of_ble_eq_true rfl⟩ ⟨rfl, rfl⟩ rfl hl.1 (Nat.le_of_ble_eq_true rfl) rfl dL_law_1892 ⟨Nat.le_of_ble_eq_true rfl, Nat.le_of_ble_eq_true rfl⟩ (fun r2 f2 H locs er2 hP hD hS => ?_)
  have er2 : r2 = (-2) := er2
  exact lv_icmp_eq (tgt := 2148) hx hb dL_law_1895 (by decide) (fun _ => hend _ _ _ hS hl) (fun c9 => absurd (er1.trans er2.symm) c9)
set_option maxRecDepth 100000 in
set_option maxHeartbeats 4000000 in
theorem lc_68 {p : Program} {l : Launch} {e : Env} {s : State} {m : MethodId} {below : List Frame} {meth : Method} {c : Code} {dC : Nat → ClassId} {dI : Nat → Nat → Nat} {b : Nat} {xs : Nat → Int32} {H : Heap} {locs : List Loc} {ls : Array Slot} (gx : Nat → Nat) (ax : Nat → ClassId) (gm : Nat → Nat) (am : Nat → ClassId) (C0 : lw_At p s m meth c b 6 xs) (hK : va_K (dC, dI) vwCl (tX ax ++ tM am) s) (hP : va_P (dC, dI) vwCl (wX gx ax ++ wM gm am) H) (hD : va_D (fun q : Nat => s.heap.size ≤ q) (wX gx ax ++ wM gm am)) (hS : va_S (fun q : Nat => s.heap.size ≤ q) s.heap H locs) (hl : lv_has ls 4 [(0, .ref b), (1, .ref (gx 0)), (2, .ref (gm 0)), (3, .int 0)]) (hend : (∀ (H : Heap) (locs : List Loc) (ls : Array Slot), va_S (fun q : Nat => s.heap.size ≤ q) s.heap H locs → lv_has ls 4 [(0, .ref b), (1, .ref (gx 0)), (2, .ref (gm 0)), (3, .int 0)] → LG p l e s m b below meth c H locs (F0 m 2148 ls []))) : LG p l e s m b below meth c H locs (F0 m 1900 ls []) := by
  obtain ⟨hx, hb, hr, hml, hown, hts, hX, hbl, hlocks, hgv⟩ := C0
  have hT : ∀ w ∈ TB, w.before #[Value.ref b] s = true := fun w h => hts w (TB_lw h)
  have hown : s.vm.findClass RL = some m.cls := hown
  have hA : ∀ q : Nat, s.heap.size ≤ q → (fun q : Nat => s.heap.size ≤ q) q := fun _ h => h
  have hbA : ¬ (fun q : Nat => s.heap.size ≤ q) b := Nat.not_le.mpr hbl
  refine lv_aload_n hx hb dL_law_1900 rfl (lv_at hl 1 rfl) ?_
  refine lv_aload_n hx hb dL_law_1901 rfl (lv_at hl 0 rfl) ?_
  refine lv_iload_n hx hb dL_law_1902 rfl (lv_at hl 3 rfl) ?_
  refine lv_iconst (v := 1) hx hb dL_law_1903 (by decide) ?_
  refine lv_iadd hx hb dL_law_1904 ?_
  refine t_i 1 (by decide) ?_
  refine va_sld hx hb hX hbl hbA hS (by unfold vp_in; decide) dL_law_1905 ?_
  refine c_Vi (C := RX8) (As := [.int (xs (1 : Int32).toNatClampNeg)]) (rest := []) (wr := (wM gm am)) (n := 1) ⟨hx, hb, hml, hown, hT⟩ (k_X8_count l dC dI gx ax (xs (1 : Int32).toNatClampNeg)) hK hP hD hS hA [59, 12] rfl [0, 66, 68, 2, 16, 17] [74, 75, 76, 77, 78, 79, 80, 81, 82, 83, 84, 85, 86, 87] rfl rfl rfl rfl (by decide) rfl rfl mw_946 mw_947 mw_948 mw_69 mw_949 (by decide +kernel) ⟨Nat.le_of_ble_eq_true rfl, Nat.le_of_ble_eq_true rfl⟩ ⟨rfl, rfl⟩ rfl hl.1 (Nat.le_of_ble_eq_true rfl) rfl dL_law_1906 ⟨Nat.le_of_ble_eq_true rfl, Nat.le_of_ble_eq_true rfl⟩ (fun r1 f1 H locs er1 hP hD hS => ?_)
  have er1 : r1 = s_count (xs (1 : Int32).toNatClampNeg).toInt := er1
  have hP : va_P (dC, dI) vwCl (wM gm am) H := hP
  have hD : va_D (fun q : Nat => s.heap.size ≤ q) (wM gm am) := hD
  refine lv_aload_n hx hb dL_law_1909 rfl (lv_at hl 2 rfl) ?_
  refine lv_aload_n hx hb dL_law_1910 rfl (lv_at hl 0 rfl) ?_
  refine lv_iload_n hx hb dL_law_1911 rfl (lv_at hl 3 rfl) ?_
  refine lv_iconst (v := 1) hx hb dL_law_1912 (by decide) ?_
  refine lv_iadd hx hb dL_law_1913 ?_
  refine t_i 1 (by decide) ?_
  refine va_sld hx hb hX hbl hbA hS (by unfold vp_in; decide) dL_law_1914 ?_
  refine c_Vi (C := RX9) (As := [.int (xs (1 : Int32).toNatClampNeg)]) (rest := [.int r1]) (wr := []) (n := 1) ⟨hx, hb, hml, hown, hT⟩ (k_X9_count l dC dI gm am (xs (1 : Int32).toNatClampNeg)) hK hP hD hS hA [63, 73] rfl [0, 1, 11] [] rfl rfl rfl rfl (by decide) rfl rfl mw_950 mw_951 mw_952 mw_19 mw_953 (by decide +kernel) ⟨Nat.le_of_ble_eq_true rfl, Nat.le_of_ble_eq_true rfl⟩ ⟨rfl, rfl⟩ rfl hl.1 (Nat.le_of_ble_eq_true rfl) rfl dL_law_1915 ⟨Nat.le_of_ble_eq_true rfl, Nat.le_of_ble_eq_true rfl⟩ (fun r2 f2 H locs er2 hP hD hS => ?_)
  have er2 : r2 = s_count (xs (1 : Int32).toNatClampNeg).toInt := er2
  exact lv_icmp_eq (tgt := 2148) hx hb dL_law_1918 (by decide) (fun _ => hend _ _ _ hS hl) (fun c9 => absurd (er1.trans er2.symm) c9)
set_option maxRecDepth 100000 in
set_option maxHeartbeats 4000000 in
theorem lc_69 {p : Program} {l : Launch} {e : Env} {s : State} {m : MethodId} {below : List Frame} {meth : Method} {c : Code} {dC : Nat → ClassId} {dI : Nat → Nat → Nat} {b : Nat} {xs : Nat → Int32} {H : Heap} {locs : List Loc} {ls : Array Slot} (gx : Nat → Nat) (ax : Nat → ClassId) (gm : Nat → Nat) (am : Nat → ClassId) (C0 : lw_At p s m meth c b 6 xs) (hK : va_K (dC, dI) vwCl (tX ax ++ tM am) s) (hP : va_P (dC, dI) vwCl (wX gx ax ++ wM gm am) H) (hD : va_D (fun q : Nat => s.heap.size ≤ q) (wX gx ax ++ wM gm am)) (hS : va_S (fun q : Nat => s.heap.size ≤ q) s.heap H locs) (hl : lv_has ls 4 [(0, .ref b), (1, .ref (gx 0)), (2, .ref (gm 0)), (3, .int 0)]) (hend : (∀ (H : Heap) (locs : List Loc) (ls : Array Slot), va_S (fun q : Nat => s.heap.size ≤ q) s.heap H locs → lv_has ls 4 [(0, .ref b), (1, .ref (gx 0)), (2, .ref (gm 0)), (3, .int 0)] → LG p l e s m b below meth c H locs (F0 m 2148 ls []))) : LG p l e s m b below meth c H locs (F0 m 1923 ls []) := by
  obtain ⟨hx, hb, hr, hml, hown, hts, hX, hbl, hlocks, hgv⟩ := C0
  have hT : ∀ w ∈ TB, w.before #[Value.ref b] s = true := fun w h => hts w (TB_lw h)
  have hown : s.vm.findClass RL = some m.cls := hown
  have hA : ∀ q : Nat, s.heap.size ≤ q → (fun q : Nat => s.heap.size ≤ q) q := fun _ h => h
  have hbA : ¬ (fun q : Nat => s.heap.size ≤ q) b := Nat.not_le.mpr hbl
  refine lv_aload_n hx hb dL_law_1923 rfl (lv_at hl 1 rfl) ?_
  refine lv_aload_n hx hb dL_law_1924 rfl (lv_at hl 0 rfl) ?_
  refine lv_iload_n hx hb dL_law_1925 rfl (lv_at hl 3 rfl) ?_
  refine lv_iconst (v := 1) hx hb dL_law_1926 (by decide) ?_
  refine lv_iadd hx hb dL_law_1927 ?_
  refine t_i 1 (by decide) ?_
  refine va_sld hx hb hX hbl hbA hS (by unfold vp_in; decide) dL_law_1928 ?_
  refine c_Vi (C := RX8) (As := [.int (xs (1 : Int32).toNatClampNeg)]) (rest := []) (wr := (wM gm am)) (n := 1) ⟨hx, hb, hml, hown, hT⟩ (k_X8_image l dC dI gx ax (xs (1 : Int32).toNatClampNeg)) hK hP hD hS hA [56, 12, 23, 13, 24, 14, 25, 15, 26, 16, 27, 17, 28, 18, 29, 19, 30, 20, 31, 21, 32, 22, 33, 57, 34, 35, 36, 37, 38, 39, 40, 41, 42, 43, 44, 45, 46, 47, 48, 49, 50, 51, 52, 53, 54, 55] rfl [0, 64, 28, 16, 17, 29, 18, 30, 19, 31, 20, 32, 21, 33, 22, 34, 23, 35, 24, 36, 25, 37, 26, 38, 27, 39, 65, 40, 41, 42, 43, 44, 45, 46, 47, 48, 49, 50, 51, 52, 53, 54, 55, 56, 57, 58, 59, 60, 61, 62, 63] [74, 75, 76, 77, 78, 79, 80, 81, 82, 83, 84, 85, 86, 87] rfl rfl rfl rfl (by decide) rfl rfl mw_954 mw_955 mw_956 mw_69 mw_957 (by decide +kernel) ⟨Nat.le_of_ble_eq_true rfl, Nat.le_of_ble_eq_true rfl⟩ ⟨rfl, rfl⟩ rfl hl.1 (Nat.le_of_ble_eq_true rfl) rfl dL_law_1929 ⟨Nat.le_of_ble_eq_true rfl, Nat.le_of_ble_eq_true rfl⟩ (fun r1 f1 H locs er1 hP hD hS => ?_)
  have er1 : r1 = s_image (xs (1 : Int32).toNatClampNeg).toInt := er1
  have hP : va_P (dC, dI) vwCl (wM gm am) H := hP
  have hD : va_D (fun q : Nat => s.heap.size ≤ q) (wM gm am) := hD
  refine lv_aload_n hx hb dL_law_1932 rfl (lv_at hl 2 rfl) ?_
  refine lv_aload_n hx hb dL_law_1933 rfl (lv_at hl 0 rfl) ?_
  refine lv_iload_n hx hb dL_law_1934 rfl (lv_at hl 3 rfl) ?_
  refine lv_iconst (v := 1) hx hb dL_law_1935 (by decide) ?_
  refine lv_iadd hx hb dL_law_1936 ?_
  refine t_i 1 (by decide) ?_
  refine va_sld hx hb hX hbl hbA hS (by unfold vp_in; decide) dL_law_1937 ?_
  refine c_Vi (C := RX9) (As := [.int (xs (1 : Int32).toNatClampNeg)]) (rest := [.int r1]) (wr := []) (n := 1) ⟨hx, hb, hml, hown, hT⟩ (k_X9_image l dC dI gm am (xs (1 : Int32).toNatClampNeg)) hK hP hD hS hA [65, 63, 64] rfl [0, 3, 1, 2] [] rfl rfl rfl rfl (by decide) rfl rfl mw_958 mw_959 mw_960 mw_19 mw_961 (by decide +kernel) ⟨Nat.le_of_ble_eq_true rfl, Nat.le_of_ble_eq_true rfl⟩ ⟨rfl, rfl⟩ rfl hl.1 (Nat.le_of_ble_eq_true rfl) rfl dL_law_1938 ⟨Nat.le_of_ble_eq_true rfl, Nat.le_of_ble_eq_true rfl⟩ (fun r2 f2 H locs er2 hP hD hS => ?_)
  have er2 : r2 = s_image (xs (1 : Int32).toNatClampNeg).toInt := er2
  exact lv_icmp_eq (tgt := 2148) hx hb dL_law_1941 (by decide) (fun _ => hend _ _ _ hS hl) (fun c9 => absurd (er1.trans er2.symm) c9)
