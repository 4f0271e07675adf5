set_option maxRecDepth 100000 in
set_option maxHeartbeats 4000000 in
theorem lc_60 {p : Program} {l : Launch} {e : Env} {s : State} {m : MethodId} {below : List Frame} {meth : Method} {c : Code} {dC : Nat → ClassId} {dI : Nat → Nat → Nat} {b L : Nat} {xs : Nat → Int32} {H : Heap} {locs : List Loc} {ls : Array Slot} {ρ : Nat → Nat} {σ : Nat → Option Nat} {a : Nat → ClassId} {h : PH} {i : Int32} (C0 : lw_At p s m meth c b L xs) (hK : va_K (dC, dI) vwCl (tysP a) s) (hM : AMB σ (fun q : Nat => s.heap.size ≤ q) s s.heap) (hI : INV h) (hJ : REL h) (hP : va_P (dC, dI) vwCl (toW ρ a h) H) (hD : va_D (fun q : Nat => s.heap.size ≤ q) (toW ρ a h)) (hS : va_S (fun q : Nat => s.heap.size ≤ q) s.heap H locs) (hl : lv_has ls 4 [(0, .ref b), (1, .ref (ρ 0)), (2, .ref (ρ 96)), (3, .int i)]) (hi : 0 ≤ i.toInt ∧ i.toInt + 6 ≤ (L : Int) ∧ L ≤ 384) (hend : ∀ (H : Heap) (locs : List Loc) (ls : Array Slot) (h : PH), INV h → REL h → va_P (dC, dI) vwCl (toW ρ a h) H → va_D (fun q : Nat => s.heap.size ≤ q) (toW ρ a h) → va_S (fun q : Nat => s.heap.size ≤ q) s.heap H locs → lv_has ls 4 [(0, .ref b), (1, .ref (ρ 0)), (2, .ref (ρ 96)), (3, .int i)] → LG p l e s m b below meth c H locs (F0 m 2146 ls [])) : LG p l e s m b below meth c H locs (F0 m 1674 ls []) := by
  obtain ⟨hx, hb, hr, hml, hown, hts, hX, hbl, hlocks, hgv⟩ := C0
  have hT : ∀ w ∈ TB, w.before #[Value.ref b] s = true := fun w h => hts w (TB_lw h)
  have hown : s.vm.findClass RL = some m.cls := hown
  have hA : ∀ q : Nat, s.heap.size ≤ q → (fun q : Nat => s.heap.size ≤ q) q := fun _ h => h
  have hbA : ¬ (fun q : Nat => s.heap.size ≤ q) b := Nat.not_le.mpr hbl
  refine lv_aload_n hx hb dL_law_1674 rfl (lv_at hl 1 rfl) ?_
  refine lv_aload_n hx hb dL_law_1675 rfl (lv_at hl 0 rfl) ?_
  refine lv_iload_n hx hb dL_law_1676 rfl (lv_at hl 3 rfl) ?_
  refine lv_iconst (v := 1) hx hb dL_law_1677 (by decide) ?_
  refine lv_iadd hx hb dL_law_1678 ?_
  refine va_sld hx hb hX hbl hbA hS (in_s hi (k := 1) (by decide)) dL_law_1679 ?_
  refine lv_aload_n hx hb dL_law_1680 rfl (lv_at hl 0 rfl) ?_
  refine lv_iload_n hx hb dL_law_1681 rfl (lv_at hl 3 rfl) ?_
  refine lv_iconst (v := 2) hx hb dL_law_1682 (by decide) ?_
  refine lv_iadd hx hb dL_law_1683 ?_
  refine va_sld hx hb hX hbl hbA hS (in_s hi (k := 2) (by decide)) dL_law_1684 ?_
  obtain ⟨r1, h1, hq, hM1⟩ := CALL_met (l := l) (dC := dC) (dI := dI) (ρ := ρ) (σ := σ) (a := a) pp_X8_mean (Nat.le_of_ble_eq_true rfl) (k_X8_mean h hI (xs (i + 1).toNatClampNeg) (xs (i + 2).toNatClampNeg))
  obtain ⟨hI1, fr1, -, z1, rfl⟩ := hq
  refine c_L (n := 2) (v := 0) (As := [.inl (xs (i + 1).toNatClampNeg), .inl (xs (i + 2).toNatClampNeg)]) (rest := []) ⟨hx, hb, hml, hown, hT⟩ hK hM hA hP hD hS pp_X8_mean hM1 sh_0 mw_537 mw_538 mw_539 mw_168 (by decide +kernel) rfl ⟨Nat.le_of_ble_eq_true rfl, Nat.le_of_ble_eq_true rfl⟩ hl.1 (Nat.le_of_ble_eq_true rfl) rfl dL_law_1685 ⟨Nat.le_of_ble_eq_true rfl, Nat.le_of_ble_eq_true rfl⟩ (fun H locs hP hD hS => ?_)
  have hI := hI1
  show LG p l e s m b below meth c H locs (F0 m 1688 ls [.long z1])
  refine lv_pop2_2 hx hb dL_law_1688 rfl ?_
  refine lv_aload_n hx hb dL_law_1689 rfl (lv_at hl 2 rfl) ?_
  refine lv_aload_n hx hb dL_law_1690 rfl (lv_at hl 0 rfl) ?_
  refine lv_iload_n hx hb dL_law_1691 rfl (lv_at hl 3 rfl) ?_
  refine lv_iconst (v := 1) hx hb dL_law_1692 (by decide) ?_
  refine lv_iadd hx hb dL_law_1693 ?_
  refine va_sld hx hb hX hbl hbA hS (in_s hi (k := 1) (by decide)) dL_law_1694 ?_
  refine lv_aload_n hx hb dL_law_1695 rfl (lv_at hl 0 rfl) ?_
  refine lv_iload_n hx hb dL_law_1696 rfl (lv_at hl 3 rfl) ?_
  refine lv_iconst (v := 2) hx hb dL_law_1697 (by decide) ?_
  refine lv_iadd hx hb dL_law_1698 ?_
  refine va_sld hx hb hX hbl hbA hS (in_s hi (k := 2) (by decide)) dL_law_1699 ?_
  obtain ⟨r2, h2, hq, hM1⟩ := CALL_met (l := l) (dC := dC) (dI := dI) (ρ := ρ) (σ := σ) (a := a) pp_X9_mean (Nat.le_of_ble_eq_true rfl) (k_X9_mean h1 hI (xs (i + 1).toNatClampNeg) (xs (i + 2).toNatClampNeg))
  obtain ⟨hI2, fr2, -, z2, rfl⟩ := hq
  refine c_L (n := 2) (v := 96) (As := [.inl (xs (i + 1).toNatClampNeg), .inl (xs (i + 2).toNatClampNeg)]) (rest := []) ⟨hx, hb, hml, hown, hT⟩ hK hM hA hP hD hS pp_X9_mean hM1 sh_96 mw_540 mw_541 mw_542 mw_173 (by decide +kernel) rfl ⟨Nat.le_of_ble_eq_true rfl, Nat.le_of_ble_eq_true rfl⟩ hl.1 (Nat.le_of_ble_eq_true rfl) rfl dL_law_1700 ⟨Nat.le_of_ble_eq_true rfl, Nat.le_of_ble_eq_true rfl⟩ (fun H locs hP hD hS => ?_)
  have hI := hI2
  show LG p l e s m b below meth c H locs (F0 m 1703 ls [.long z2])
  refine lv_pop2_2 hx hb dL_law_1703 rfl ?_
  refine lv_goto (tgt := 2146) hx hb dL_law_1704 (by decide) ?_
  exact hend _ _ _ _ hI (REL_fr fr1 fr2 (by decide) (by decide) hJ) hP hD hS hl
set_option maxRecDepth 100000 in
set_option maxHeartbeats 4000000 in
theorem lc_61 {p : Program} {l : Launch} {e : Env} {s : State} {m : MethodId} {below : List Frame} {meth : Method} {c : Code} {dC : Nat → ClassId} {dI : Nat → Nat → Nat} {b L : Nat} {xs : Nat → Int32} {H : Heap} {locs : List Loc} {ls : Array Slot} {ρ : Nat → Nat} {σ : Nat → Option Nat} {a : Nat → ClassId} {h : PH} {i : Int32} (C0 : lw_At p s m meth c b L xs) (hK : va_K (dC, dI) vwCl (tysP a) s) (hM : AMB σ (fun q : Nat => s.heap.size ≤ q) s s.heap) (hI : INV h) (hJ : REL h) (hP : va_P (dC, dI) vwCl (toW ρ a h) H) (hD : va_D (fun q : Nat => s.heap.size ≤ q) (toW ρ a h)) (hS : va_S (fun q : Nat => s.heap.size ≤ q) s.heap H locs) (hl : lv_has ls 4 [(0, .ref b), (1, .ref (ρ 0)), (2, .ref (ρ 96)), (3, .int i)]) (hi : 0 ≤ i.toInt ∧ i.toInt + 6 ≤ (L : Int) ∧ L ≤ 384) (hend : ∀ (H : Heap) (locs : List Loc) (ls : Array Slot) (h : PH), INV h → REL h → va_P (dC, dI) vwCl (toW ρ a h) H → va_D (fun q : Nat => s.heap.size ≤ q) (toW ρ a h) → va_S (fun q : Nat => s.heap.size ≤ q) s.heap H locs → lv_has ls 4 [(0, .ref b), (1, .ref (ρ 0)), (2, .ref (ρ 96)), (3, .int i)] → LG p l e s m b below meth c H locs (F0 m 2146 ls [])) : LG p l e s m b below meth c H locs (F0 m 1707 ls []) := by
  obtain ⟨hx, hb, hr, hml, hown, hts, hX, hbl, hlocks, hgv⟩ := C0
  have hT : ∀ w ∈ TB, w.before #[Value.ref b] s = true := fun w h => hts w (TB_lw h)
  have hown : s.vm.findClass RL = some m.cls := hown
  have hA : ∀ q : Nat, s.heap.size ≤ q → (fun q : Nat => s.heap.size ≤ q) q := fun _ h => h
  have hbA : ¬ (fun q : Nat => s.heap.size ≤ q) b := Nat.not_le.mpr hbl
  refine lv_aload_n hx hb dL_law_1707 rfl (lv_at hl 1 rfl) ?_
  refine lv_aload_n hx hb dL_law_1708 rfl (lv_at hl 0 rfl) ?_
  refine lv_iload_n hx hb dL_law_1709 rfl (lv_at hl 3 rfl) ?_
  refine lv_iconst (v := 1) hx hb dL_law_1710 (by decide) ?_
  refine lv_iadd hx hb dL_law_1711 ?_
  refine va_sld hx hb hX hbl hbA hS (in_s hi (k := 1) (by decide)) dL_law_1712 ?_
  refine lv_aload_n hx hb dL_law_1713 rfl (lv_at hl 0 rfl) ?_
  refine lv_iload_n hx hb dL_law_1714 rfl (lv_at hl 3 rfl) ?_
  refine lv_iconst (v := 2) hx hb dL_law_1715 (by decide) ?_
  refine lv_iadd hx hb dL_law_1716 ?_
  refine va_sld hx hb hX hbl hbA hS (in_s hi (k := 2) (by decide)) dL_law_1717 ?_
  refine lv_aload_n hx hb dL_law_1718 rfl (lv_at hl 0 rfl) ?_
  refine lv_iload_n hx hb dL_law_1719 rfl (lv_at hl 3 rfl) ?_
  refine lv_iconst (v := 3) hx hb dL_law_1720 (by decide) ?_
  refine lv_iadd hx hb dL_law_1721 ?_
  refine va_sld hx hb hX hbl hbA hS (in_s hi (k := 3) (by decide)) dL_law_1722 ?_
  obtain ⟨r1, h1, hq, hM1⟩ := CALL_met (l := l) (dC := dC) (dI := dI) (ρ := ρ) (σ := σ) (a := a) pp_X8_rest (Nat.le_of_ble_eq_true rfl) (k_X8_rest h hI (xs (i + 1).toNatClampNeg) (xs (i + 2).toNatClampNeg) (xs (i + 3).toNatClampNeg))
  obtain ⟨hI1, fr1, -, z1, rfl, -⟩ := hq
  refine c_L (n := 3) (v := 0) (As := [.inl (xs (i + 1).toNatClampNeg), .inl (xs (i + 2).toNatClampNeg), .inl (xs (i + 3).toNatClampNeg)]) (rest := []) ⟨hx, hb, hml, hown, hT⟩ hK hM hA hP hD hS pp_X8_rest hM1 sh_0 mw_543 mw_544 mw_545 mw_168 (by decide +kernel) rfl ⟨Nat.le_of_ble_eq_true rfl, Nat.le_of_ble_eq_true rfl⟩ hl.1 (Nat.le_of_ble_eq_true rfl) rfl dL_law_1723 ⟨Nat.le_of_ble_eq_true rfl, Nat.le_of_ble_eq_true rfl⟩ (fun H locs hP hD hS => ?_)
  have hI := hI1
  show LG p l e s m b below meth c H locs (F0 m 1726 ls [.int z1])
  refine lv_pop hx hb dL_law_1726 rfl ?_
  refine lv_aload_n hx hb dL_law_1727 rfl (lv_at hl 2 rfl) ?_
  refine lv_aload_n hx hb dL_law_1728 rfl (lv_at hl 0 rfl) ?_
  refine lv_iload_n hx hb dL_law_1729 rfl (lv_at hl 3 rfl) ?_
  refine lv_iconst (v := 1) hx hb dL_law_1730 (by decide) ?_
  refine lv_iadd hx hb dL_law_1731 ?_
  refine va_sld hx hb hX hbl hbA hS (in_s hi (k := 1) (by decide)) dL_law_1732 ?_
  refine lv_aload_n hx hb dL_law_1733 rfl (lv_at hl 0 rfl) ?_
  refine lv_iload_n hx hb dL_law_1734 rfl (lv_at hl 3 rfl) ?_
  refine lv_iconst (v := 2) hx hb dL_law_1735 (by decide) ?_
  refine lv_iadd hx hb dL_law_1736 ?_
  refine va_sld hx hb hX hbl hbA hS (in_s hi (k := 2) (by decide)) dL_law_1737 ?_
  refine lv_aload_n hx hb dL_law_1738 rfl (lv_at hl 0 rfl) ?_
  refine lv_iload_n hx hb dL_law_1739 rfl (lv_at hl 3 rfl) ?_
  refine lv_iconst (v := 3) hx hb dL_law_1740 (by decide) ?_
  refine lv_iadd hx hb dL_law_1741 ?_
  refine va_sld hx hb hX hbl hbA hS (in_s hi (k := 3) (by decide)) dL_law_1742 ?_
  obtain ⟨r2, h2, hq, hM1⟩ := CALL_met (l := l) (dC := dC) (dI := dI) (ρ := ρ) (σ := σ) (a := a) pp_X9_rest (Nat.le_of_ble_eq_true rfl) (k_X9_rest h1 hI (xs (i + 1).toNatClampNeg) (xs (i + 2).toNatClampNeg) (xs (i + 3).toNatClampNeg))
  obtain ⟨hI2, fr2, -, z2, rfl, -⟩ := hq
  refine c_L (n := 3) (v := 96) (As := [.inl (xs (i + 1).toNatClampNeg), .inl (xs (i + 2).toNatClampNeg), .inl (xs (i + 3).toNatClampNeg)]) (rest := []) ⟨hx, hb, hml, hown, hT⟩ hK hM hA hP hD hS pp_X9_rest hM1 sh_96 mw_546 mw_547 mw_548 mw_173 (by decide +kernel) rfl ⟨Nat.le_of_ble_eq_true rfl, Nat.le_of_ble_eq_true rfl⟩ hl.1 (Nat.le_of_ble_eq_true rfl) rfl dL_law_1743 ⟨Nat.le_of_ble_eq_true rfl, Nat.le_of_ble_eq_true rfl⟩ (fun H locs hP hD hS => ?_)
  have hI := hI2
  show LG p l e s m b below meth c H locs (F0 m 1746 ls [.int z2])
  refine lv_pop hx hb dL_law_1746 rfl ?_
  refine lv_goto (tgt := 2146) hx hb dL_law_1747 (by decide) ?_
  exact hend _ _ _ _ hI (REL_fr fr1 fr2 (by decide) (by decide) hJ) hP hD hS hl
set_option maxRecDepth 100000 in
set_option maxHeartbeats 4000000 in
theorem lc_62 {p : Program} {l : Launch} {e : Env} {s : State} {m : MethodId} {below : List Frame} {meth : Method} {c : Code} {dC : Nat → ClassId} {dI : Nat → Nat → Nat} {b L : Nat} {xs : Nat → Int32} {H : Heap} {locs : List Loc} {ls : Array Slot} {ρ : Nat → Nat} {σ : Nat → Option Nat} {a : Nat → ClassId} {h : PH} {i : Int32} (C0 : lw_At p s m meth c b L xs) (hK : va_K (dC, dI) vwCl (tysP a) s) (hM : AMB σ (fun q : Nat => s.heap.size ≤ q) s s.heap) (hI : INV h) (hJ : REL h) (hP : va_P (dC, dI) vwCl (toW ρ a h) H) (hD : va_D (fun q : Nat => s.heap.size ≤ q) (toW ρ a h)) (hS : va_S (fun q : Nat => s.heap.size ≤ q) s.heap H locs) (hl : lv_has ls 4 [(0, .ref b), (1, .ref (ρ 0)), (2, .ref (ρ 96)), (3, .int i)]) (hi : 0 ≤ i.toInt ∧ i.toInt + 6 ≤ (L : Int) ∧ L ≤ 384) (hend : ∀ (H : Heap) (locs : List Loc) (ls : Array Slot) (h : PH), INV h → REL h → va_P (dC, dI) vwCl (toW ρ a h) H → va_D (fun q : Nat => s.heap.size ≤ q) (toW ρ a h) → va_S (fun q : Nat => s.heap.size ≤ q) s.heap H locs → lv_has ls 4 [(0, .ref b), (1, .ref (ρ 0)), (2, .ref (ρ 96)), (3, .int i)] → LG p l e s m b below meth c H locs (F0 m 2146 ls [])) : LG p l e s m b below meth c H locs (F0 m 1750 ls []) := by
  obtain ⟨hx, hb, hr, hml, hown, hts, hX, hbl, hlocks, hgv⟩ := C0
  have hT : ∀ w ∈ TB, w.before #[Value.ref b] s = true := fun w h => hts w (TB_lw h)
  have hown : s.vm.findClass RL = some m.cls := hown
  have hA : ∀ q : Nat, s.heap.size ≤ q → (fun q : Nat => s.heap.size ≤ q) q := fun _ h => h
  have hbA : ¬ (fun q : Nat => s.heap.size ≤ q) b := Nat.not_le.mpr hbl
  refine lv_aload_n hx hb dL_law_1750 rfl (lv_at hl 1 rfl) ?_
  refine lv_aload_n hx hb dL_law_1751 rfl (lv_at hl 0 rfl) ?_
  refine lv_iload_n hx hb dL_law_1752 rfl (lv_at hl 3 rfl) ?_
  refine lv_iconst (v := 1) hx hb dL_law_1753 (by decide) ?_
  refine lv_iadd hx hb dL_law_1754 ?_
  refine va_sld hx hb hX hbl hbA hS (in_s hi (k := 1) (by decide)) dL_law_1755 ?_
  refine lv_aload_n hx hb dL_law_1756 rfl (lv_at hl 0 rfl) ?_
  refine lv_iload_n hx hb dL_law_1757 rfl (lv_at hl 3 rfl) ?_
  refine lv_iconst (v := 2) hx hb dL_law_1758 (by decide) ?_
  refine lv_iadd hx hb dL_law_1759 ?_
  refine va_sld hx hb hX hbl hbA hS (in_s hi (k := 2) (by decide)) dL_law_1760 ?_
  obtain ⟨r1, h1, hq, hM1⟩ := CALL_met (l := l) (dC := dC) (dI := dI) (ρ := ρ) (σ := σ) (a := a) pp_X8_paces (Nat.le_of_ble_eq_true rfl) (k_X8_paces h hI (xs (i + 1).toNatClampNeg) (xs (i + 2).toNatClampNeg))
  obtain ⟨hI1, fr1, -, z1, rfl, -⟩ := hq
  refine c_L (n := 2) (v := 0) (As := [.inl (xs (i + 1).toNatClampNeg), .inl (xs (i + 2).toNatClampNeg)]) (rest := []) ⟨hx, hb, hml, hown, hT⟩ hK hM hA hP hD hS pp_X8_paces hM1 sh_0 mw_549 mw_550 mw_551 mw_168 (by decide +kernel) rfl ⟨Nat.le_of_ble_eq_true rfl, Nat.le_of_ble_eq_true rfl⟩ hl.1 (Nat.le_of_ble_eq_true rfl) rfl dL_law_1761 ⟨Nat.le_of_ble_eq_true rfl, Nat.le_of_ble_eq_true rfl⟩ (fun H locs hP hD hS => ?_)
  have hI := hI1
  show LG p l e s m b below meth c H locs (F0 m 1764 ls [.int z1])
  refine lv_pop hx hb dL_law_1764 rfl ?_
  refine lv_aload_n hx hb dL_law_1765 rfl (lv_at hl 2 rfl) ?_
  refine lv_aload_n hx hb dL_law_1766 rfl (lv_at hl 0 rfl) ?_
  refine lv_iload_n hx hb dL_law_1767 rfl (lv_at hl 3 rfl) ?_
  refine lv_iconst (v := 1) hx hb dL_law_1768 (by decide) ?_
  refine lv_iadd hx hb dL_law_1769 ?_
  refine va_sld hx hb hX hbl hbA hS (in_s hi (k := 1) (by decide)) dL_law_1770 ?_
  refine lv_aload_n hx hb dL_law_1771 rfl (lv_at hl 0 rfl) ?_
  refine lv_iload_n hx hb dL_law_1772 rfl (lv_at hl 3 rfl) ?_
  refine lv_iconst (v := 2) hx hb dL_law_1773 (by decide) ?_
  refine lv_iadd hx hb dL_law_1774 ?_
  refine va_sld hx hb hX hbl hbA hS (in_s hi (k := 2) (by decide)) dL_law_1775 ?_
  obtain ⟨r2, h2, hq, hM1⟩ := CALL_met (l := l) (dC := dC) (dI := dI) (ρ := ρ) (σ := σ) (a := a) pp_X9_paces (Nat.le_of_ble_eq_true rfl) (k_X9_paces h1 hI (xs (i + 1).toNatClampNeg) (xs (i + 2).toNatClampNeg))
  obtain ⟨hI2, fr2, -, z2, rfl, -⟩ := hq
  refine c_L (n := 2) (v := 96) (As := [.inl (xs (i + 1).toNatClampNeg), .inl (xs (i + 2).toNatClampNeg)]) (rest := []) ⟨hx, hb, hml, hown, hT⟩ hK hM hA hP hD hS pp_X9_paces hM1 sh_96 mw_552 mw_553 mw_554 mw_173 (by decide +kernel) rfl ⟨Nat.le_of_ble_eq_true rfl, Nat.le_of_ble_eq_true rfl⟩ hl.1 (Nat.le_of_ble_eq_true rfl) rfl dL_law_1776 ⟨Nat.le_of_ble_eq_true rfl, Nat.le_of_ble_eq_true rfl⟩ (fun H locs hP hD hS => ?_)
  have hI := hI2
  show LG p l e s m b below meth c H locs (F0 m 1779 ls [.int z2])
  refine lv_pop hx hb dL_law_1779 rfl ?_
  refine lv_goto (tgt := 2146) hx hb dL_law_1780 (by decide) ?_
  exact hend _ _ _ _ hI (REL_fr fr1 fr2 (by decide) (by decide) hJ) hP hD hS hl
set_option maxRecDepth 100000 in
set_option maxHeartbeats 4000000 in
theorem lc_63 {p : Program} {l : Launch} {e : Env} {s : State} {m : MethodId} {below : List Frame} {meth : Method} {c : Code} {dC : Nat → ClassId} {dI : Nat → Nat → Nat} {b L : Nat} {xs : Nat → Int32} {H : Heap} {locs : List Loc} {ls : Array Slot} {ρ : Nat → Nat} {σ : Nat → Option Nat} {a : Nat → ClassId} {h : PH} {i : Int32} (C0 : lw_At p s m meth c b L xs) (hK : va_K (dC, dI) vwCl (tysP a) s) (hM : AMB σ (fun q : Nat => s.heap.size ≤ q) s s.heap) (hI : INV h) (hJ : REL h) (hP : va_P (dC, dI) vwCl (toW ρ a h) H) (hD : va_D (fun q : Nat => s.heap.size ≤ q) (toW ρ a h)) (hS : va_S (fun q : Nat => s.heap.size ≤ q) s.heap H locs) (hl : lv_has ls 4 [(0, .ref b), (1, .ref (ρ 0)), (2, .ref (ρ 96)), (3, .int i)]) (hi : 0 ≤ i.toInt ∧ i.toInt + 6 ≤ (L : Int) ∧ L ≤ 384) (hend : ∀ (H : Heap) (locs : List Loc) (ls : Array Slot) (h : PH), INV h → REL h → va_P (dC, dI) vwCl (toW ρ a h) H → va_D (fun q : Nat => s.heap.size ≤ q) (toW ρ a h) → va_S (fun q : Nat => s.heap.size ≤ q) s.heap H locs → lv_has ls 4 [(0, .ref b), (1, .ref (ρ 0)), (2, .ref (ρ 96)), (3, .int i)] → LG p l e s m b below meth c H locs (F0 m 2146 ls [])) : LG p l e s m b below meth c H locs (F0 m 1783 ls []) := by
  obtain ⟨hx, hb, hr, hml, hown, hts, hX, hbl, hlocks, hgv⟩ := C0
  have hT : ∀ w ∈ TB, w.before #[Value.ref b] s = true := fun w h => hts w (TB_lw h)
  have hown : s.vm.findClass RL = some m.cls := hown
  have hA : ∀ q : Nat, s.heap.size ≤ q → (fun q : Nat => s.heap.size ≤ q) q := fun _ h => h
  have hbA : ¬ (fun q : Nat => s.heap.size ≤ q) b := Nat.not_le.mpr hbl
  refine lv_aload_n hx hb dL_law_1783 rfl (lv_at hl 1 rfl) ?_
  obtain ⟨r1, h1, hq, hM1⟩ := CALL_met (l := l) (dC := dC) (dI := dI) (ρ := ρ) (σ := σ) (a := a) pp_X8_undo (Nat.le_of_ble_eq_true rfl) (k_X8_undo h hI )
  obtain ⟨hI1, fr1, -, z1, rfl, -⟩ := hq
  refine c_L (n := 0) (v := 0) (As := []) (rest := []) ⟨hx, hb, hml, hown, hT⟩ hK hM hA hP hD hS pp_X8_undo hM1 sh_0 mw_555 mw_556 mw_557 mw_168 (by decide +kernel) rfl ⟨Nat.le_of_ble_eq_true rfl, Nat.le_of_ble_eq_true rfl⟩ hl.1 (Nat.le_of_ble_eq_true rfl) rfl dL_law_1784 ⟨Nat.le_of_ble_eq_true rfl, Nat.le_of_ble_eq_true rfl⟩ (fun H locs hP hD hS => ?_)
  have hI := hI1
  show LG p l e s m b below meth c H locs (F0 m 1787 ls [.int z1])
  refine lv_pop hx hb dL_law_1787 rfl ?_
  refine lv_aload_n hx hb dL_law_1788 rfl (lv_at hl 2 rfl) ?_
  obtain ⟨r2, h2, hq, hM1⟩ := CALL_met (l := l) (dC := dC) (dI := dI) (ρ := ρ) (σ := σ) (a := a) pp_X9_undo (Nat.le_of_ble_eq_true rfl) (k_X9_undo h1 hI )
  obtain ⟨hI2, fr2, -, z2, rfl, -⟩ := hq
  refine c_L (n := 0) (v := 96) (As := []) (rest := []) ⟨hx, hb, hml, hown, hT⟩ hK hM hA hP hD hS pp_X9_undo hM1 sh_96 mw_558 mw_559 mw_560 mw_173 (by decide +kernel) rfl ⟨Nat.le_of_ble_eq_true rfl, Nat.le_of_ble_eq_true rfl⟩ hl.1 (Nat.le_of_ble_eq_true rfl) rfl dL_law_1789 ⟨Nat.le_of_ble_eq_true rfl, Nat.le_of_ble_eq_true rfl⟩ (fun H locs hP hD hS => ?_)
  have hI := hI2
  show LG p l e s m b below meth c H locs (F0 m 1792 ls [.int z2])
  refine lv_pop hx hb dL_law_1792 rfl ?_
  refine lv_goto (tgt := 2146) hx hb dL_law_1793 (by decide) ?_
  exact hend _ _ _ _ hI (REL_fr fr1 fr2 (by decide) (by decide) hJ) hP hD hS hl
set_option maxRecDepth 100000 in
set_option maxHeartbeats 4000000 in
theorem lc_64 {p : Program} {l : Launch} {e : Env} {s : State} {m : MethodId} {below : List Frame} {meth : Method} {c : Code} {dC : Nat → ClassId} {dI : Nat → Nat → Nat} {b L : Nat} {xs : Nat → Int32} {H : Heap} {locs : List Loc} {ls : Array Slot} {ρ : Nat → Nat} {σ : Nat → Option Nat} {a : Nat → ClassId} {h : PH} {i : Int32} (C0 : lw_At p s m meth c b L xs) (hK : va_K (dC, dI) vwCl (tysP a) s) (hM : AMB σ (fun q : Nat => s.heap.size ≤ q) s s.heap) (hI : INV h) (hJ : REL h) (hP : va_P (dC, dI) vwCl (toW ρ a h) H) (hD : va_D (fun q : Nat => s.heap.size ≤ q) (toW ρ a h)) (hS : va_S (fun q : Nat => s.heap.size ≤ q) s.heap H locs) (hl : lv_has ls 4 [(0, .ref b), (1, .ref (ρ 0)), (2, .ref (ρ 96)), (3, .int i)]) (hi : 0 ≤ i.toInt ∧ i.toInt + 6 ≤ (L : Int) ∧ L ≤ 384) (hend : ∀ (H : Heap) (locs : List Loc) (ls : Array Slot) (h : PH), INV h → REL h → va_P (dC, dI) vwCl (toW ρ a h) H → va_D (fun q : Nat => s.heap.size ≤ q) (toW ρ a h) → va_S (fun q : Nat => s.heap.size ≤ q) s.heap H locs → lv_has ls 4 [(0, .ref b), (1, .ref (ρ 0)), (2, .ref (ρ 96)), (3, .int i)] → LG p l e s m b below meth c H locs (F0 m 2146 ls [])) : LG p l e s m b below meth c H locs (F0 m 1796 ls []) := by
  obtain ⟨hx, hb, hr, hml, hown, hts, hX, hbl, hlocks, hgv⟩ := C0
  have hT : ∀ w ∈ TB, w.before #[Value.ref b] s = true := fun w h => hts w (TB_lw h)
  have hown : s.vm.findClass RL = some m.cls := hown
  have hA : ∀ q : Nat, s.heap.size ≤ q → (fun q : Nat => s.heap.size ≤ q) q := fun _ h => h
  have hbA : ¬ (fun q : Nat => s.heap.size ≤ q) b := Nat.not_le.mpr hbl
  refine lv_aload_n hx hb dL_law_1796 rfl (lv_at hl 1 rfl) ?_
  obtain ⟨r1, h1, hq, hM1⟩ := CALL_met (l := l) (dC := dC) (dI := dI) (ρ := ρ) (σ := σ) (a := a) pp_X8_anew (Nat.le_of_ble_eq_true rfl) (k_X8_anew h hI )
  obtain ⟨hI1, fr1, -, z1, rfl, -⟩ := hq
  refine c_L (n := 0) (v := 0) (As := []) (rest := []) ⟨hx, hb, hml, hown, hT⟩ hK hM hA hP hD hS pp_X8_anew hM1 sh_0 mw_561 mw_562 mw_563 mw_168 (by decide +kernel) rfl ⟨Nat.le_of_ble_eq_true rfl, Nat.le_of_ble_eq_true rfl⟩ hl.1 (Nat.le_of_ble_eq_true rfl) rfl dL_law_1797 ⟨Nat.le_of_ble_eq_true rfl, Nat.le_of_ble_eq_true rfl⟩ (fun H locs hP hD hS => ?_)
  have hI := hI1
  show LG p l e s m b below meth c H locs (F0 m 1800 ls [.int z1])
  refine lv_pop hx hb dL_law_1800 rfl ?_
  refine lv_aload_n hx hb dL_law_1801 rfl (lv_at hl 2 rfl) ?_
  obtain ⟨r2, h2, hq, hM1⟩ := CALL_met (l := l) (dC := dC) (dI := dI) (ρ := ρ) (σ := σ) (a := a) pp_X9_anew (Nat.le_of_ble_eq_true rfl) (k_X9_anew h1 hI )
  obtain ⟨hI2, fr2, -, z2, rfl, -⟩ := hq
  refine c_L (n := 0) (v := 96) (As := []) (rest := []) ⟨hx, hb, hml, hown, hT⟩ hK hM hA hP hD hS pp_X9_anew hM1 sh_96 mw_564 mw_565 mw_566 mw_173 (by decide +kernel) rfl ⟨Nat.le_of_ble_eq_true rfl, Nat.le_of_ble_eq_true rfl⟩ hl.1 (Nat.le_of_ble_eq_true rfl) rfl dL_law_1802 ⟨Nat.le_of_ble_eq_true rfl, Nat.le_of_ble_eq_true rfl⟩ (fun H locs hP hD hS => ?_)
  have hI := hI2
  show LG p l e s m b below meth c H locs (F0 m 1805 ls [.int z2])
  refine lv_pop hx hb dL_law_1805 rfl ?_
  refine lv_goto (tgt := 2146) hx hb dL_law_1806 (by decide) ?_
  exact hend _ _ _ _ hI (REL_fr fr1 fr2 (by decide) (by decide) hJ) hP hD hS hl
set_option maxRecDepth 100000 in
set_option maxHeartbeats 4000000 in
theorem lc_65 {p : Program} {l : Launch} {e : Env} {s : State} {m : MethodId} {below : List Frame} {meth : Method} {c : Code} {dC : Nat → ClassId} {dI : Nat → Nat → Nat} {b L : Nat} {xs : Nat → Int32} {H : Heap} {locs : List Loc} {ls : Array Slot} {ρ : Nat → Nat} {σ : Nat → Option Nat} {a : Nat → ClassId} {h : PH} {i : Int32} (C0 : lw_At p s m meth c b L xs) (hK : va_K (dC, dI) vwCl (tysP a) s) (hM : AMB σ (fun q : Nat => s.heap.size ≤ q) s s.heap) (hI : INV h) (hJ : REL h) (hP : va_P (dC, dI) vwCl (toW ρ a h) H) (hD : va_D (fun q : Nat => s.heap.size ≤ q) (toW ρ a h)) (hS : va_S (fun q : Nat => s.heap.size ≤ q) s.heap H locs) (hl : lv_has ls 4 [(0, .ref b), (1, .ref (ρ 0)), (2, .ref (ρ 96)), (3, .int i)]) (hi : 0 ≤ i.toInt ∧ i.toInt + 6 ≤ (L : Int) ∧ L ≤ 384) (hend : ∀ (H : Heap) (locs : List Loc) (ls : Array Slot) (h : PH), INV h → REL h → va_P (dC, dI) vwCl (toW ρ a h) H → va_D (fun q : Nat => s.heap.size ≤ q) (toW ρ a h) → va_S (fun q : Nat => s.heap.size ≤ q) s.heap H locs → lv_has ls 4 [(0, .ref b), (1, .ref (ρ 0)), (2, .ref (ρ 96)), (3, .int i)] → LG p l e s m b below meth c H locs (F0 m 2146 ls [])) : LG p l e s m b below meth c H locs (F0 m 1809 ls []) := by
  obtain ⟨hx, hb, hr, hml, hown, hts, hX, hbl, hlocks, hgv⟩ := C0
  have hT : ∀ w ∈ TB, w.before #[Value.ref b] s = true := fun w h => hts w (TB_lw h)
  have hown : s.vm.findClass RL = some m.cls := hown
  have hA : ∀ q : Nat, s.heap.size ≤ q → (fun q : Nat => s.heap.size ≤ q) q := fun _ h => h
  have hbA : ¬ (fun q : Nat => s.heap.size ≤ q) b := Nat.not_le.mpr hbl
  refine lv_aload_n hx hb dL_law_1809 rfl (lv_at hl 1 rfl) ?_
  refine lv_aload_n hx hb dL_law_1810 rfl (lv_at hl 0 rfl) ?_
  refine lv_iload_n hx hb dL_law_1811 rfl (lv_at hl 3 rfl) ?_
  refine lv_iconst (v := 1) hx hb dL_law_1812 (by decide) ?_
  refine lv_iadd hx hb dL_law_1813 ?_
  refine va_sld hx hb hX hbl hbA hS (in_s hi (k := 1) (by decide)) dL_law_1814 ?_
  refine lv_aload_n hx hb dL_law_1815 rfl (lv_at hl 0 rfl) ?_
  refine lv_iload_n hx hb dL_law_1816 rfl (lv_at hl 3 rfl) ?_
  refine lv_iconst (v := 2) hx hb dL_law_1817 (by decide) ?_
  refine lv_iadd hx hb dL_law_1818 ?_
  refine va_sld hx hb hX hbl hbA hS (in_s hi (k := 2) (by decide)) dL_law_1819 ?_
  obtain ⟨r1, h1, hq, hM1⟩ := CALL_met (l := l) (dC := dC) (dI := dI) (ρ := ρ) (σ := σ) (a := a) pp_X8_drawn (Nat.le_of_ble_eq_true rfl) (k_X8_drawn h hI (xs (i + 1).toNatClampNeg) (xs (i + 2).toNatClampNeg))
  obtain ⟨hI1, fr1, -, z1, rfl, -⟩ := hq
  refine c_L (n := 2) (v := 0) (As := [.inl (xs (i + 1).toNatClampNeg), .inl (xs (i + 2).toNatClampNeg)]) (rest := []) ⟨hx, hb, hml, hown, hT⟩ hK hM hA hP hD hS pp_X8_drawn hM1 sh_0 mw_567 mw_568 mw_569 mw_168 (by decide +kernel) rfl ⟨Nat.le_of_ble_eq_true rfl, Nat.le_of_ble_eq_true rfl⟩ hl.1 (Nat.le_of_ble_eq_true rfl) rfl dL_law_1820 ⟨Nat.le_of_ble_eq_true rfl, Nat.le_of_ble_eq_true rfl⟩ (fun H locs hP hD hS => ?_)
  have hI := hI1
  show LG p l e s m b below meth c H locs (F0 m 1823 ls [.int z1])
  refine lv_pop hx hb dL_law_1823 rfl ?_
  refine lv_aload_n hx hb dL_law_1824 rfl (lv_at hl 2 rfl) ?_
  refine lv_aload_n hx hb dL_law_1825 rfl (lv_at hl 0 rfl) ?_
  refine lv_iload_n hx hb dL_law_1826 rfl (lv_at hl 3 rfl) ?_
  refine lv_iconst (v := 1) hx hb dL_law_1827 (by decide) ?_
  refine lv_iadd hx hb dL_law_1828 ?_
  refine va_sld hx hb hX hbl hbA hS (in_s hi (k := 1) (by decide)) dL_law_1829 ?_
  refine lv_aload_n hx hb dL_law_1830 rfl (lv_at hl 0 rfl) ?_
  refine lv_iload_n hx hb dL_law_1831 rfl (lv_at hl 3 rfl) ?_
  refine lv_iconst (v := 2) hx hb dL_law_1832 (by decide) ?_
  refine lv_iadd hx hb dL_law_1833 ?_
  refine va_sld hx hb hX hbl hbA hS (in_s hi (k := 2) (by decide)) dL_law_1834 ?_
  obtain ⟨r2, h2, hq, hM1⟩ := CALL_met (l := l) (dC := dC) (dI := dI) (ρ := ρ) (σ := σ) (a := a) pp_X9_drawn (Nat.le_of_ble_eq_true rfl) (k_X9_drawn h1 hI (xs (i + 1).toNatClampNeg) (xs (i + 2).toNatClampNeg))
  obtain ⟨hI2, fr2, -, z2, rfl, -⟩ := hq
  refine c_L (n := 2) (v := 96) (As := [.inl (xs (i + 1).toNatClampNeg), .inl (xs (i + 2).toNatClampNeg)]) (rest := []) ⟨hx, hb, hml, hown, hT⟩ hK hM hA hP hD hS pp_X9_drawn hM1 sh_96 mw_570 mw_571 mw_572 mw_173 (by decide +kernel) rfl ⟨Nat.le_of_ble_eq_true rfl, Nat.le_of_ble_eq_true rfl⟩ hl.1 (Nat.le_of_ble_eq_true rfl) rfl dL_law_1835 ⟨Nat.le_of_ble_eq_true rfl, Nat.le_of_ble_eq_true rfl⟩ (fun H locs hP hD hS => ?_)
  have hI := hI2
  show LG p l e s m b below meth c H locs (F0 m 1838 ls [.int z2])
  refine lv_pop hx hb dL_law_1838 rfl ?_
  refine lv_goto (tgt := 2146) hx hb dL_law_1839 (by decide) ?_
  exact hend _ _ _ _ hI (REL_fr fr1 fr2 (by decide) (by decide) hJ) hP hD hS hl
set_option maxRecDepth 100000 in
set_option maxHeartbeats 4000000 in
theorem lc_66 {p : Program} {l : Launch} {e : Env} {s : State} {m : MethodId} {below : List Frame} {meth : Method} {c : Code} {dC : Nat → ClassId} {dI : Nat → Nat → Nat} {b L : Nat} {xs : Nat → Int32} {H : Heap} {locs : List Loc} {ls : Array Slot} {ρ : Nat → Nat} {σ : Nat → Option Nat} {a : Nat → ClassId} {h : PH} {i : Int32} (C0 : lw_At p s m meth c b L xs) (hK : va_K (dC, dI) vwCl (tysP a) s) (hM : AMB σ (fun q : Nat => s.heap.size ≤ q) s s.heap) (hI : INV h) (hJ : REL h) (hP : va_P (dC, dI) vwCl (toW ρ a h) H) (hD : va_D (fun q : Nat => s.heap.size ≤ q) (toW ρ a h)) (hS : va_S (fun q : Nat => s.heap.size ≤ q) s.heap H locs) (hl : lv_has ls 4 [(0, .ref b), (1, .ref (ρ 0)), (2, .ref (ρ 96)), (3, .int i)]) (hi : 0 ≤ i.toInt ∧ i.toInt + 6 ≤ (L : Int) ∧ L ≤ 384) (hend : ∀ (H : Heap) (locs : List Loc) (ls : Array Slot) (h : PH), INV h → REL h → va_P (dC, dI) vwCl (toW ρ a h) H → va_D (fun q : Nat => s.heap.size ≤ q) (toW ρ a h) → va_S (fun q : Nat => s.heap.size ≤ q) s.heap H locs → lv_has ls 4 [(0, .ref b), (1, .ref (ρ 0)), (2, .ref (ρ 96)), (3, .int i)] → LG p l e s m b below meth c H locs (F0 m 2146 ls [])) : LG p l e s m b below meth c H locs (F0 m 1842 ls []) := by
  obtain ⟨hx, hb, hr, hml, hown, hts, hX, hbl, hlocks, hgv⟩ := C0
  have hT : ∀ w ∈ TB, w.before #[Value.ref b] s = true := fun w h => hts w (TB_lw h)
  have hown : s.vm.findClass RL = some m.cls := hown
  have hA : ∀ q : Nat, s.heap.size ≤ q → (fun q : Nat => s.heap.size ≤ q) q := fun _ h => h
  have hbA : ¬ (fun q : Nat => s.heap.size ≤ q) b := Nat.not_le.mpr hbl
  refine lv_aload_n hx hb dL_law_1842 rfl (lv_at hl 1 rfl) ?_
  refine lv_aload_n hx hb dL_law_1843 rfl (lv_at hl 0 rfl) ?_
  refine lv_iload_n hx hb dL_law_1844 rfl (lv_at hl 3 rfl) ?_
  refine lv_iconst (v := 1) hx hb dL_law_1845 (by decide) ?_
  refine lv_iadd hx hb dL_law_1846 ?_
  refine va_sld hx hb hX hbl hbA hS (in_s hi (k := 1) (by decide)) dL_law_1847 ?_
  refine lv_aload_n hx hb dL_law_1848 rfl (lv_at hl 0 rfl) ?_
  refine lv_iload_n hx hb dL_law_1849 rfl (lv_at hl 3 rfl) ?_
  refine lv_iconst (v := 2) hx hb dL_law_1850 (by decide) ?_
  refine lv_iadd hx hb dL_law_1851 ?_
  refine va_sld hx hb hX hbl hbA hS (in_s hi (k := 2) (by decide)) dL_law_1852 ?_
  obtain ⟨r1, h1, hq, hM1⟩ := CALL_met (l := l) (dC := dC) (dI := dI) (ρ := ρ) (σ := σ) (a := a) pp_X8_luck (Nat.le_of_ble_eq_true rfl) (k_X8_luck h hI (xs (i + 1).toNatClampNeg) (xs (i + 2).toNatClampNeg))
  obtain ⟨hI1, fr1, -, z1, rfl, -⟩ := hq
  refine c_L (n := 2) (v := 0) (As := [.inl (xs (i + 1).toNatClampNeg), .inl (xs (i + 2).toNatClampNeg)]) (rest := []) ⟨hx, hb, hml, hown, hT⟩ hK hM hA hP hD hS pp_X8_luck hM1 sh_0 mw_573 mw_574 mw_575 mw_168 (by decide +kernel) rfl ⟨Nat.le_of_ble_eq_true rfl, Nat.le_of_ble_eq_true rfl⟩ hl.1 (Nat.le_of_ble_eq_true rfl) rfl dL_law_1853 ⟨Nat.le_of_ble_eq_true rfl, Nat.le_of_ble_eq_true rfl⟩ (fun H locs hP hD hS => ?_)
  have hI := hI1
  show LG p l e s m b below meth c H locs (F0 m 1856 ls [.int z1])
  refine lv_pop hx hb dL_law_1856 rfl ?_
  refine lv_aload_n hx hb dL_law_1857 rfl (lv_at hl 2 rfl) ?_
  refine lv_aload_n hx hb dL_law_1858 rfl (lv_at hl 0 rfl) ?_
  refine lv_iload_n hx hb dL_law_1859 rfl (lv_at hl 3 rfl) ?_
  refine lv_iconst (v := 1) hx hb dL_law_1860 (by decide) ?_
  refine lv_iadd hx hb dL_law_1861 ?_
  refine va_sld hx hb hX hbl hbA hS (in_s hi (k := 1) (by decide)) dL_law_1862 ?_
  refine lv_aload_n hx hb dL_law_1863 rfl (lv_at hl 0 rfl) ?_
  refine lv_iload_n hx hb dL_law_1864 rfl (lv_at hl 3 rfl) ?_
  refine lv_iconst (v := 2) hx hb dL_law_1865 (by decide) ?_
  refine lv_iadd hx hb dL_law_1866 ?_
  refine va_sld hx hb hX hbl hbA hS (in_s hi (k := 2) (by decide)) dL_law_1867 ?_
  obtain ⟨r2, h2, hq, hM1⟩ := CALL_met (l := l) (dC := dC) (dI := dI) (ρ := ρ) (σ := σ) (a := a) pp_X9_luck (Nat.le_of_ble_eq_true rfl) (k_X9_luck h1 hI (xs (i + 1).toNatClampNeg) (xs (i + 2).toNatClampNeg))
  obtain ⟨hI2, fr2, -, z2, rfl, -⟩ := hq
  refine c_L (n := 2) (v := 96) (As := [.inl (xs (i + 1).toNatClampNeg), .inl (xs (i + 2).toNatClampNeg)]) (rest := []) ⟨hx, hb, hml, hown, hT⟩ hK hM hA hP hD hS pp_X9_luck hM1 sh_96 mw_576 mw_577 mw_578 mw_173 (by decide +kernel) rfl ⟨Nat.le_of_ble_eq_true rfl, Nat.le_of_ble_eq_true rfl⟩ hl.1 (Nat.le_of_ble_eq_true rfl) rfl dL_law_1868 ⟨Nat.le_of_ble_eq_true rfl, Nat.le_of_ble_eq_true rfl⟩ (fun H locs hP hD hS => ?_)
  have hI := hI2
  show LG p l e s m b below meth c H locs (F0 m 1871 ls [.int z2])
  refine lv_pop hx hb dL_law_1871 rfl ?_
  refine lv_goto (tgt := 2146) hx hb dL_law_1872 (by decide) ?_
  exact hend _ _ _ _ hI (REL_fr fr1 fr2 (by decide) (by decide) hJ) hP hD hS hl
set_option maxRecDepth 100000 in
set_option maxHeartbeats 4000000 in
theorem lc_67 {p : Program} {l : Launch} {e : Env} {s : State} {m : MethodId} {below : List Frame} {meth : Method} {c : Code} {dC : Nat → ClassId} {dI : Nat → Nat → Nat} {b L : Nat} {xs : Nat → Int32} {H : Heap} {locs : List Loc} {ls : Array Slot} {ρ : Nat → Nat} {σ : Nat → Option Nat} {a : Nat → ClassId} {h : PH} {i : Int32} (C0 : lw_At p s m meth c b L xs) (hK : va_K (dC, dI) vwCl (tysP a) s) (hM : AMB σ (fun q : Nat => s.heap.size ≤ q) s s.heap) (hI : INV h) (hJ : REL h) (hP : va_P (dC, dI) vwCl (toW ρ a h) H) (hD : va_D (fun q : Nat => s.heap.size ≤ q) (toW ρ a h)) (hS : va_S (fun q : Nat => s.heap.size ≤ q) s.heap H locs) (hl : lv_has ls 4 [(0, .ref b), (1, .ref (ρ 0)), (2, .ref (ρ 96)), (3, .int i)]) (hi : 0 ≤ i.toInt ∧ i.toInt + 6 ≤ (L : Int) ∧ L ≤ 384) (hend : ∀ (H : Heap) (locs : List Loc) (ls : Array Slot) (h : PH), INV h → REL h → va_P (dC, dI) vwCl (toW ρ a h) H → va_D (fun q : Nat => s.heap.size ≤ q) (toW ρ a h) → va_S (fun q : Nat => s.heap.size ≤ q) s.heap H locs → lv_has ls 4 [(0, .ref b), (1, .ref (ρ 0)), (2, .ref (ρ 96)), (3, .int i)] → LG p l e s m b below meth c H locs (F0 m 2146 ls [])) : LG p l e s m b below meth c H locs (F0 m 1875 ls []) := by
  obtain ⟨hx, hb, hr, hml, hown, hts, hX, hbl, hlocks, hgv⟩ := C0
  have hT : ∀ w ∈ TB, w.before #[Value.ref b] s = true := fun w h => hts w (TB_lw h)
  have hown : s.vm.findClass RL = some m.cls := hown
  have hA : ∀ q : Nat, s.heap.size ≤ q → (fun q : Nat => s.heap.size ≤ q) q := fun _ h => h
  have hbA : ¬ (fun q : Nat => s.heap.size ≤ q) b := Nat.not_le.mpr hbl
  refine lv_aload_n hx hb dL_law_1875 rfl (lv_at hl 1 rfl) ?_
  refine lv_aload_n hx hb dL_law_1876 rfl (lv_at hl 0 rfl) ?_
  refine lv_iload_n hx hb dL_law_1877 rfl (lv_at hl 3 rfl) ?_
  refine lv_iconst (v := 1) hx hb dL_law_1878 (by decide) ?_
  refine lv_iadd hx hb dL_law_1879 ?_
  refine va_sld hx hb hX hbl hbA hS (in_s hi (k := 1) (by decide)) dL_law_1880 ?_
  obtain ⟨r1, h1, hq, hM1⟩ := CALL_met (l := l) (dC := dC) (dI := dI) (ρ := ρ) (σ := σ) (a := a) pp_X8_fills (Nat.le_of_ble_eq_true rfl) (k_X8_fills h hI (xs (i + 1).toNatClampNeg))
  obtain ⟨hI1, fr1, -, z1, rfl, -⟩ := hq
  refine c_L (n := 1) (v := 0) (As := [.inl (xs (i + 1).toNatClampNeg)]) (rest := []) ⟨hx, hb, hml, hown, hT⟩ hK hM hA hP hD hS pp_X8_fills hM1 sh_0 mw_579 mw_580 mw_581 mw_168 (by decide +kernel) rfl ⟨Nat.le_of_ble_eq_true rfl, Nat.le_of_ble_eq_true rfl⟩ hl.1 (Nat.le_of_ble_eq_true rfl) rfl dL_law_1881 ⟨Nat.le_of_ble_eq_true rfl, Nat.le_of_ble_eq_true rfl⟩ (fun H locs hP hD hS => ?_)
  have hI := hI1
  show LG p l e s m b below meth c H locs (F0 m 1884 ls [.int z1])
  refine lv_pop hx hb dL_law_1884 rfl ?_
  refine lv_aload_n hx hb dL_law_1885 rfl (lv_at hl 2 rfl) ?_
  refine lv_aload_n hx hb dL_law_1886 rfl (lv_at hl 0 rfl) ?_
  refine lv_iload_n hx hb dL_law_1887 rfl (lv_at hl 3 rfl) ?_
  refine lv_iconst (v := 1) hx hb dL_law_1888 (by decide) ?_
  refine lv_iadd hx hb dL_law_1889 ?_
  refine va_sld hx hb hX hbl hbA hS (in_s hi (k := 1) (by decide)) dL_law_1890 ?_
  obtain ⟨r2, h2, hq, hM1⟩ := CALL_met (l := l) (dC := dC) (dI := dI) (ρ := ρ) (σ := σ) (a := a) pp_X9_fills (Nat.le_of_ble_eq_true rfl) (k_X9_fills h1 hI (xs (i + 1).toNatClampNeg))
  obtain ⟨hI2, fr2, -, z2, rfl, -⟩ := hq
  refine c_L (n := 1) (v := 96) (As := [.inl (xs (i + 1).toNatClampNeg)]) (rest := []) ⟨hx, hb, hml, hown, hT⟩ hK hM hA hP hD hS pp_X9_fills hM1 sh_96 mw_582 mw_583 mw_584 mw_173 (by decide +kernel) rfl ⟨Nat.le_of_ble_eq_true rfl, Nat.le_of_ble_eq_true rfl⟩ hl.1 (Nat.le_of_ble_eq_true rfl) rfl dL_law_1891 ⟨Nat.le_of_ble_eq_true rfl, Nat.le_of_ble_eq_true rfl⟩ (fun H locs hP hD hS => ?_)
  have hI := hI2
  show LG p l e s m b below meth c H locs (F0 m 1894 ls [.int z2])
  refine lv_pop hx hb dL_law_1894 rfl ?_
  refine lv_goto (tgt := 2146) hx hb dL_law_1895 (by decide) ?_
  exact hend _ _ _ _ hI (REL_fr fr1 fr2 (by decide) (by decide) hJ) hP hD hS hl
set_option maxRecDepth 100000 in
set_option maxHeartbeats 4000000 in
theorem lc_68 {p : Program} {l : Launch} {e : Env} {s : State} {m : MethodId} {below : List Frame} {meth : Method} {c : Code} {dC : Nat → ClassId} {dI : Nat → Nat → Nat} {b L : Nat} {xs : Nat → Int32} {H : Heap} {locs : List Loc} {ls : Array Slot} {ρ : Nat → Nat} {σ : Nat → Option Nat} {a : Nat → ClassId} {h : PH} {i : Int32} (C0 : lw_At p s m meth c b L xs) (hK : va_K (dC, dI) vwCl (tysP a) s) (hM : AMB σ (fun q : Nat => s.heap.size ≤ q) s s.heap) (hI : INV h) (hJ : REL h) (hP : va_P (dC, dI) vwCl (toW ρ a h) H) (hD : va_D (fun q : Nat => s.heap.size ≤ q) (toW ρ a h)) (hS : va_S (fun q : Nat => s.heap.size ≤ q) s.heap H locs) (hl : lv_has ls 4 [(0, .ref b), (1, .ref (ρ 0)), (2, .ref (ρ 96)), (3, .int i)]) (hi : 0 ≤ i.toInt ∧ i.toInt + 6 ≤ (L : Int) ∧ L ≤ 384) (hend : ∀ (H : Heap) (locs : List Loc) (ls : Array Slot) (h : PH), INV h → REL h → va_P (dC, dI) vwCl (toW ρ a h) H → va_D (fun q : Nat => s.heap.size ≤ q) (toW ρ a h) → va_S (fun q : Nat => s.heap.size ≤ q) s.heap H locs → lv_has ls 4 [(0, .ref b), (1, .ref (ρ 0)), (2, .ref (ρ 96)), (3, .int i)] → LG p l e s m b below meth c H locs (F0 m 2146 ls [])) : LG p l e s m b below meth c H locs (F0 m 1898 ls []) := by
  obtain ⟨hx, hb, hr, hml, hown, hts, hX, hbl, hlocks, hgv⟩ := C0
  have hT : ∀ w ∈ TB, w.before #[Value.ref b] s = true := fun w h => hts w (TB_lw h)
  have hown : s.vm.findClass RL = some m.cls := hown
  have hA : ∀ q : Nat, s.heap.size ≤ q → (fun q : Nat => s.heap.size ≤ q) q := fun _ h => h
  have hbA : ¬ (fun q : Nat => s.heap.size ≤ q) b := Nat.not_le.mpr hbl
  refine lv_aload_n hx hb dL_law_1898 rfl (lv_at hl 1 rfl) ?_
  refine lv_aload_n hx hb dL_law_1899 rfl (lv_at hl 0 rfl) ?_
  refine lv_iload_n hx hb dL_law_1900 rfl (lv_at hl 3 rfl) ?_
  refine lv_iconst (v := 1) hx hb dL_law_1901 (by decide) ?_
  refine lv_iadd hx hb dL_law_1902 ?_
  refine va_sld hx hb hX hbl hbA hS (in_s hi (k := 1) (by decide)) dL_law_1903 ?_
  obtain ⟨r1, h1, hq, hM1⟩ := CALL_met (l := l) (dC := dC) (dI := dI) (ρ := ρ) (σ := σ) (a := a) pp_X8_count (Nat.le_of_ble_eq_true rfl) (k_X8_count h hI (xs (i + 1).toNatClampNeg))
  obtain ⟨rfl, z1, rfl, -⟩ := hq
  refine c_L (n := 1) (v := 0) (As := [.inl (xs (i + 1).toNatClampNeg)]) (rest := []) ⟨hx, hb, hml, hown, hT⟩ hK hM hA hP hD hS pp_X8_count hM1 sh_0 mw_585 mw_586 mw_587 mw_168 (by decide +kernel) rfl ⟨Nat.le_of_ble_eq_true rfl, Nat.le_of_ble_eq_true rfl⟩ hl.1 (Nat.le_of_ble_eq_true rfl) rfl dL_law_1904 ⟨Nat.le_of_ble_eq_true rfl, Nat.le_of_ble_eq_true rfl⟩ (fun H locs hP hD hS => ?_)
  show LG p l e s m b below meth c H locs (F0 m 1907 ls [.int z1])
  refine lv_pop hx hb dL_law_1907 rfl ?_
  refine lv_aload_n hx hb dL_law_1908 rfl (lv_at hl 2 rfl) ?_
  refine lv_aload_n hx hb dL_law_1909 rfl (lv_at hl 0 rfl) ?_
  refine lv_iload_n hx hb dL_law_1910 rfl (lv_at hl 3 rfl) ?_
  refine lv_iconst (v := 1) hx hb dL_law_1911 (by decide) ?_
  refine lv_iadd hx hb dL_law_1912 ?_
  refine va_sld hx hb hX hbl hbA hS (in_s hi (k := 1) (by decide)) dL_law_1913 ?_
  obtain ⟨r2, h2, hq, hM1⟩ := CALL_met (l := l) (dC := dC) (dI := dI) (ρ := ρ) (σ := σ) (a := a) pp_X9_count (Nat.le_of_ble_eq_true rfl) (k_X9_count h hI (xs (i + 1).toNatClampNeg))
  obtain ⟨rfl, z2, rfl, -⟩ := hq
  refine c_L (n := 1) (v := 96) (As := [.inl (xs (i + 1).toNatClampNeg)]) (rest := []) ⟨hx, hb, hml, hown, hT⟩ hK hM hA hP hD hS pp_X9_count hM1 sh_96 mw_588 mw_589 mw_590 mw_173 (by decide +kernel) rfl ⟨Nat.le_of_ble_eq_true rfl, Nat.le_of_ble_eq_true rfl⟩ hl.1 (Nat.le_of_ble_eq_true rfl) rfl dL_law_1914 ⟨Nat.le_of_ble_eq_true rfl, Nat.le_of_ble_eq_true rfl⟩ (fun H locs hP hD hS => ?_)
  show LG p l e s m b below meth c H locs (F0 m 1917 ls [.int z2])
  refine lv_pop hx hb dL_law_1917 rfl ?_
  refine lv_goto (tgt := 2146) hx hb dL_law_1918 (by decide) ?_
  exact hend _ _ _ _ hI (REL_fr (FR.rf [] h) (FR.rf [] h) (by decide) (by decide) hJ) hP hD hS hl
set_option maxRecDepth 100000 in
set_option maxHeartbeats 4000000 in
theorem lc_69 {p : Program} {l : Launch} {e : Env} {s : State} {m : MethodId} {below : List Frame} {meth : Method} {c : Code} {dC : Nat → ClassId} {dI : Nat → Nat → Nat} {b L : Nat} {xs : Nat → Int32} {H : Heap} {locs : List Loc} {ls : Array Slot} {ρ : Nat → Nat} {σ : Nat → Option Nat} {a : Nat → ClassId} {h : PH} {i : Int32} (C0 : lw_At p s m meth c b L xs) (hK : va_K (dC, dI) vwCl (tysP a) s) (hM : AMB σ (fun q : Nat => s.heap.size ≤ q) s s.heap) (hI : INV h) (hJ : REL h) (hP : va_P (dC, dI) vwCl (toW ρ a h) H) (hD : va_D (fun q : Nat => s.heap.size ≤ q) (toW ρ a h)) (hS : va_S (fun q : Nat => s.heap.size ≤ q) s.heap H locs) (hl : lv_has ls 4 [(0, .ref b), (1, .ref (ρ 0)), (2, .ref (ρ 96)), (3, .int i)]) (hi : 0 ≤ i.toInt ∧ i.toInt + 6 ≤ (L : Int) ∧ L ≤ 384) (hend : ∀ (H : Heap) (locs : List Loc) (ls : Array Slot) (h : PH), INV h → REL h → va_P (dC, dI) vwCl (toW ρ a h) H → va_D (fun q : Nat => s.heap.size ≤ q) (toW ρ a h) → va_S (fun q : Nat => s.heap.size ≤ q) s.heap H locs → lv_has ls 4 [(0, .ref b), (1, .ref (ρ 0)), (2, .ref (ρ 96)), (3, .int i)] → LG p l e s m b below meth c H locs (F0 m 2146 ls [])) : LG p l e s m b below meth c H locs (F0 m 1921 ls []) := by
  obtain ⟨hx, hb, hr, hml, hown, hts, hX, hbl, hlocks, hgv⟩ := C0
  have hT : ∀ w ∈ TB, w.before #[Value.ref b] s = true := fun w h => hts w (TB_lw h)
  have hown : s.vm.findClass RL = some m.cls := hown
  have hA : ∀ q : Nat, s.heap.size ≤ q → (fun q : Nat => s.heap.size ≤ q) q := fun _ h => h
  have hbA : ¬ (fun q : Nat => s.heap.size ≤ q) b := Nat.not_le.mpr hbl
  refine lv_aload_n hx hb dL_law_1921 rfl (lv_at hl 1 rfl) ?_
  refine lv_aload_n hx hb dL_law_1922 rfl (lv_at hl 0 rfl) ?_
  refine lv_iload_n hx hb dL_law_1923 rfl (lv_at hl 3 rfl) ?_
  refine lv_iconst (v := 1) hx hb dL_law_1924 (by decide) ?_
  refine lv_iadd hx hb dL_law_1925 ?_
  refine va_sld hx hb hX hbl hbA hS (in_s hi (k := 1) (by decide)) dL_law_1926 ?_
  obtain ⟨r1, h1, hq, hM1⟩ := CALL_met (l := l) (dC := dC) (dI := dI) (ρ := ρ) (σ := σ) (a := a) pp_X8_image (Nat.le_of_ble_eq_true rfl) (g_X8_image h hI (xs (i + 1).toNatClampNeg))
  obtain ⟨hI1, fr1, ⟨xr1_0, -⟩, z1, rfl, -, hz1, -⟩ := hq
  refine c_L (n := 1) (v := 0) (As := [.inl (xs (i + 1).toNatClampNeg)]) (rest := []) ⟨hx, hb, hml, hown, hT⟩ hK hM hA hP hD hS pp_X8_image hM1 sh_0 mw_591 mw_592 mw_593 mw_168 (by decide +kernel) rfl ⟨Nat.le_of_ble_eq_true rfl, Nat.le_of_ble_eq_true rfl⟩ hl.1 (Nat.le_of_ble_eq_true rfl) rfl dL_law_1927 ⟨Nat.le_of_ble_eq_true rfl, Nat.le_of_ble_eq_true rfl⟩ (fun H locs hP hD hS => ?_)
  have hI := hI1
  show LG p l e s m b below meth c H locs (F0 m 1930 ls [.int z1])
  refine lv_aload_n hx hb dL_law_1930 rfl (lv_at hl 2 rfl) ?_
  refine lv_aload_n hx hb dL_law_1931 rfl (lv_at hl 0 rfl) ?_
  refine lv_iload_n hx hb dL_law_1932 rfl (lv_at hl 3 rfl) ?_
  refine lv_iconst (v := 1) hx hb dL_law_1933 (by decide) ?_
  refine lv_iadd hx hb dL_law_1934 ?_
  refine va_sld hx hb hX hbl hbA hS (in_s hi (k := 1) (by decide)) dL_law_1935 ?_
  obtain ⟨r2, h2, hq, hM1⟩ := CALL_met (l := l) (dC := dC) (dI := dI) (ρ := ρ) (σ := σ) (a := a) pp_X9_image (Nat.le_of_ble_eq_true rfl) (g_X9_image h1 hI (xs (i + 1).toNatClampNeg))
  obtain ⟨hI2, fr2, ⟨xr2_0, -⟩, z2, rfl, -, hz2, -⟩ := hq
  refine c_L (n := 1) (v := 96) (As := [.inl (xs (i + 1).toNatClampNeg)]) (rest := [.int z1]) ⟨hx, hb, hml, hown, hT⟩ hK hM hA hP hD hS pp_X9_image hM1 sh_96 mw_594 mw_595 mw_596 mw_173 (by decide +kernel) rfl ⟨Nat.le_of_ble_eq_true rfl, Nat.le_of_ble_eq_true rfl⟩ hl.1 (Nat.le_of_ble_eq_true rfl) rfl dL_law_1936 ⟨Nat.le_of_ble_eq_true rfl, Nat.le_of_ble_eq_true rfl⟩ (fun H locs hP hD hS => ?_)
  have hI := hI2
  show LG p l e s m b below meth c H locs (F0 m 1939 ls [.int z2, .int z1])
  exact lv_icmp_eq (tgt := 2146) hx hb dL_law_1939 (by decide) (fun _ => hend _ _ _ _ hI (REL_img fr1 fr2 (by decide) (by decide) xr1_0 xr2_0 hJ) hP hD hS hl) (fun c9 => absurd (hz1.trans hz2.symm) c9)
