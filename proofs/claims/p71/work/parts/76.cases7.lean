set_option maxRecDepth 100000 in
set_option maxHeartbeats 4000000 in
theorem lc_70 {p : Program} {l : Launch} {e : Env} {s : State} {m : MethodId} {below : List Frame} {meth : Method} {c : Code} {dC : Nat → ClassId} {dI : Nat → Nat → Nat} {b L : Nat} {xs : Nat → Int32} {H : Heap} {locs : List Loc} {ls : Array Slot} {ρ : Nat → Nat} {σ : Nat → Option Nat} {a : Nat → ClassId} {h : PH} {i : Int32} (C0 : lw_At p s m meth c b L xs) (hK : va_K (dC, dI) vwCl (tysP a) s) (hM : AMB σ (fun q : Nat => s.heap.size ≤ q) s s.heap) (hI : INV h) (hJ : REL h) (hP : va_P (dC, dI) vwCl (toW ρ a h) H) (hD : va_D (fun q : Nat => s.heap.size ≤ q) (toW ρ a h)) (hS : va_S (fun q : Nat => s.heap.size ≤ q) s.heap H locs) (hl : lv_has ls 4 [(0, .ref b), (1, .ref (ρ 0)), (2, .ref (ρ 96)), (3, .int i)]) (hi : 0 ≤ i.toInt ∧ i.toInt + 6 ≤ (L : Int) ∧ L ≤ 384) (hend : ∀ (H : Heap) (locs : List Loc) (ls : Array Slot) (h : PH), INV h → REL h → va_P (dC, dI) vwCl (toW ρ a h) H → va_D (fun q : Nat => s.heap.size ≤ q) (toW ρ a h) → va_S (fun q : Nat => s.heap.size ≤ q) s.heap H locs → lv_has ls 4 [(0, .ref b), (1, .ref (ρ 0)), (2, .ref (ρ 96)), (3, .int i)] → LG p l e s m b below meth c H locs (F0 m 2146 ls [])) : LG p l e s m b below meth c H locs (F0 m 1944 ls []) := by
  obtain ⟨hx, hb, hr, hml, hown, hts, hX, hbl, hlocks, hgv⟩ := C0
  have hT : ∀ w ∈ TB, w.before #[Value.ref b] s = true := fun w h => hts w (TB_lw h)
  have hown : s.vm.findClass RL = some m.cls := hown
  have hA : ∀ q : Nat, s.heap.size ≤ q → (fun q : Nat => s.heap.size ≤ q) q := fun _ h => h
  have hbA : ¬ (fun q : Nat => s.heap.size ≤ q) b := Nat.not_le.mpr hbl
  refine lv_aload_n hx hb dL_law_1944 rfl (lv_at hl 1 rfl) ?_
  refine lv_aload_n hx hb dL_law_1945 rfl (lv_at hl 0 rfl) ?_
  refine lv_iload_n hx hb dL_law_1946 rfl (lv_at hl 3 rfl) ?_
  refine lv_iconst (v := 1) hx hb dL_law_1947 (by decide) ?_
  refine lv_iadd hx hb dL_law_1948 ?_
  refine va_sld hx hb hX hbl hbA hS (in_s hi (k := 1) (by decide)) dL_law_1949 ?_
  obtain ⟨r1, h1, hq, hM1⟩ := CALL_met (l := l) (dC := dC) (dI := dI) (ρ := ρ) (σ := σ) (a := a) pp_X8_back (Nat.le_of_ble_eq_true rfl) (k_X8_back h hI (xs (i + 1).toNatClampNeg))
  obtain ⟨hI1, fr1, -, z1, rfl, -⟩ := hq
  refine c_L (n := 1) (v := 0) (As := [.inl (xs (i + 1).toNatClampNeg)]) (rest := []) ⟨hx, hb, hml, hown, hT⟩ hK hM hA hP hD hS pp_X8_back hM1 sh_0 mw_597 mw_598 mw_599 mw_168 (by decide +kernel) rfl ⟨Nat.le_of_ble_eq_true rfl, Nat.le_of_ble_eq_true rfl⟩ hl.1 (Nat.le_of_ble_eq_true rfl) rfl dL_law_1950 ⟨Nat.le_of_ble_eq_true rfl, Nat.le_of_ble_eq_true rfl⟩ (fun H locs hP hD hS => ?_)
  have hI := hI1
  show LG p l e s m b below meth c H locs (F0 m 1953 ls [.int z1])
  refine lv_pop hx hb dL_law_1953 rfl ?_
  refine lv_aload_n hx hb dL_law_1954 rfl (lv_at hl 2 rfl) ?_
  refine lv_aload_n hx hb dL_law_1955 rfl (lv_at hl 0 rfl) ?_
  refine lv_iload_n hx hb dL_law_1956 rfl (lv_at hl 3 rfl) ?_
  refine lv_iconst (v := 1) hx hb dL_law_1957 (by decide) ?_
  refine lv_iadd hx hb dL_law_1958 ?_
  refine va_sld hx hb hX hbl hbA hS (in_s hi (k := 1) (by decide)) dL_law_1959 ?_
  obtain ⟨r2, h2, hq, hM1⟩ := CALL_met (l := l) (dC := dC) (dI := dI) (ρ := ρ) (σ := σ) (a := a) pp_X9_back (Nat.le_of_ble_eq_true rfl) (k_X9_back h1 hI (xs (i + 1).toNatClampNeg))
  obtain ⟨hI2, fr2, -, z2, rfl, -⟩ := hq
  refine c_L (n := 1) (v := 96) (As := [.inl (xs (i + 1).toNatClampNeg)]) (rest := []) ⟨hx, hb, hml, hown, hT⟩ hK hM hA hP hD hS pp_X9_back hM1 sh_96 mw_600 mw_601 mw_602 mw_173 (by decide +kernel) rfl ⟨Nat.le_of_ble_eq_true rfl, Nat.le_of_ble_eq_true rfl⟩ hl.1 (Nat.le_of_ble_eq_true rfl) rfl dL_law_1960 ⟨Nat.le_of_ble_eq_true rfl, Nat.le_of_ble_eq_true rfl⟩ (fun H locs hP hD hS => ?_)
  have hI := hI2
  show LG p l e s m b below meth c H locs (F0 m 1963 ls [.int z2])
  refine lv_pop hx hb dL_law_1963 rfl ?_
  refine lv_goto (tgt := 2146) hx hb dL_law_1964 (by decide) ?_
  exact hend _ _ _ _ hI (REL_fr fr1 fr2 (by decide) (by decide) hJ) hP hD hS hl
set_option maxRecDepth 100000 in
set_option maxHeartbeats 4000000 in
theorem lc_71 {p : Program} {l : Launch} {e : Env} {s : State} {m : MethodId} {below : List Frame} {meth : Method} {c : Code} {dC : Nat → ClassId} {dI : Nat → Nat → Nat} {b L : Nat} {xs : Nat → Int32} {H : Heap} {locs : List Loc} {ls : Array Slot} {ρ : Nat → Nat} {σ : Nat → Option Nat} {a : Nat → ClassId} {h : PH} {i : Int32} (C0 : lw_At p s m meth c b L xs) (hK : va_K (dC, dI) vwCl (tysP a) s) (hM : AMB σ (fun q : Nat => s.heap.size ≤ q) s s.heap) (hI : INV h) (hJ : REL h) (hP : va_P (dC, dI) vwCl (toW ρ a h) H) (hD : va_D (fun q : Nat => s.heap.size ≤ q) (toW ρ a h)) (hS : va_S (fun q : Nat => s.heap.size ≤ q) s.heap H locs) (hl : lv_has ls 4 [(0, .ref b), (1, .ref (ρ 0)), (2, .ref (ρ 96)), (3, .int i)]) (hi : 0 ≤ i.toInt ∧ i.toInt + 6 ≤ (L : Int) ∧ L ≤ 384) (hend : ∀ (H : Heap) (locs : List Loc) (ls : Array Slot) (h : PH), INV h → REL h → va_P (dC, dI) vwCl (toW ρ a h) H → va_D (fun q : Nat => s.heap.size ≤ q) (toW ρ a h) → va_S (fun q : Nat => s.heap.size ≤ q) s.heap H locs → lv_has ls 4 [(0, .ref b), (1, .ref (ρ 0)), (2, .ref (ρ 96)), (3, .int i)] → LG p l e s m b below meth c H locs (F0 m 2146 ls [])) : LG p l e s m b below meth c H locs (F0 m 1967 ls []) := by
  obtain ⟨hx, hb, hr, hml, hown, hts, hX, hbl, hlocks, hgv⟩ := C0
  have hT : ∀ w ∈ TB, w.before #[Value.ref b] s = true := fun w h => hts w (TB_lw h)
  have hown : s.vm.findClass RL = some m.cls := hown
  have hA : ∀ q : Nat, s.heap.size ≤ q → (fun q : Nat => s.heap.size ≤ q) q := fun _ h => h
  have hbA : ¬ (fun q : Nat => s.heap.size ≤ q) b := Nat.not_le.mpr hbl
  refine lv_aload_n hx hb dL_law_1967 rfl (lv_at hl 1 rfl) ?_
  refine lv_aload_n hx hb dL_law_1968 rfl (lv_at hl 0 rfl) ?_
  refine lv_iload_n hx hb dL_law_1969 rfl (lv_at hl 3 rfl) ?_
  refine lv_iconst (v := 1) hx hb dL_law_1970 (by decide) ?_
  refine lv_iadd hx hb dL_law_1971 ?_
  refine va_sld hx hb hX hbl hbA hS (in_s hi (k := 1) (by decide)) dL_law_1972 ?_
  refine lv_aload_n hx hb dL_law_1973 rfl (lv_at hl 0 rfl) ?_
  refine lv_iload_n hx hb dL_law_1974 rfl (lv_at hl 3 rfl) ?_
  refine lv_iconst (v := 2) hx hb dL_law_1975 (by decide) ?_
  refine lv_iadd hx hb dL_law_1976 ?_
  refine va_sld hx hb hX hbl hbA hS (in_s hi (k := 2) (by decide)) dL_law_1977 ?_
  refine lv_aload_n hx hb dL_law_1978 rfl (lv_at hl 0 rfl) ?_
  refine lv_iload_n hx hb dL_law_1979 rfl (lv_at hl 3 rfl) ?_
  refine lv_iconst (v := 3) hx hb dL_law_1980 (by decide) ?_
  refine lv_iadd hx hb dL_law_1981 ?_
  refine va_sld hx hb hX hbl hbA hS (in_s hi (k := 3) (by decide)) dL_law_1982 ?_
  obtain ⟨r1, h1, hq, hM1⟩ := CALL_met (l := l) (dC := dC) (dI := dI) (ρ := ρ) (σ := σ) (a := a) pp_X8_row (Nat.le_of_ble_eq_true rfl) (g_X8_row h hI (xs (i + 1).toNatClampNeg) (xs (i + 2).toNatClampNeg) (xs (i + 3).toNatClampNeg))
  obtain ⟨hI1, fr1, ⟨xr1_0, xr1_1, -⟩, z1, rfl, -, hz1, -⟩ := hq
  refine c_L (n := 3) (v := 0) (As := [.inl (xs (i + 1).toNatClampNeg), .inl (xs (i + 2).toNatClampNeg), .inl (xs (i + 3).toNatClampNeg)]) (rest := []) ⟨hx, hb, hml, hown, hT⟩ hK hM hA hP hD hS pp_X8_row hM1 sh_0 mw_603 mw_604 mw_605 mw_168 (by decide +kernel) rfl ⟨Nat.le_of_ble_eq_true rfl, Nat.le_of_ble_eq_true rfl⟩ hl.1 (Nat.le_of_ble_eq_true rfl) rfl dL_law_1983 ⟨Nat.le_of_ble_eq_true rfl, Nat.le_of_ble_eq_true rfl⟩ (fun H locs hP hD hS => ?_)
  have hI := hI1
  show LG p l e s m b below meth c H locs (F0 m 1986 ls [.int z1])
  refine lv_pop hx hb dL_law_1986 rfl ?_
  refine lv_aload_n hx hb dL_law_1987 rfl (lv_at hl 2 rfl) ?_
  refine lv_aload_n hx hb dL_law_1988 rfl (lv_at hl 0 rfl) ?_
  refine lv_iload_n hx hb dL_law_1989 rfl (lv_at hl 3 rfl) ?_
  refine lv_iconst (v := 1) hx hb dL_law_1990 (by decide) ?_
  refine lv_iadd hx hb dL_law_1991 ?_
  refine va_sld hx hb hX hbl hbA hS (in_s hi (k := 1) (by decide)) dL_law_1992 ?_
  refine lv_aload_n hx hb dL_law_1993 rfl (lv_at hl 0 rfl) ?_
  refine lv_iload_n hx hb dL_law_1994 rfl (lv_at hl 3 rfl) ?_
  refine lv_iconst (v := 2) hx hb dL_law_1995 (by decide) ?_
  refine lv_iadd hx hb dL_law_1996 ?_
  refine va_sld hx hb hX hbl hbA hS (in_s hi (k := 2) (by decide)) dL_law_1997 ?_
  refine lv_aload_n hx hb dL_law_1998 rfl (lv_at hl 0 rfl) ?_
  refine lv_iload_n hx hb dL_law_1999 rfl (lv_at hl 3 rfl) ?_
  refine lv_iconst (v := 3) hx hb dL_law_2000 (by decide) ?_
  refine lv_iadd hx hb dL_law_2001 ?_
  refine va_sld hx hb hX hbl hbA hS (in_s hi (k := 3) (by decide)) dL_law_2002 ?_
  obtain ⟨r2, h2, hq, hM1⟩ := CALL_met (l := l) (dC := dC) (dI := dI) (ρ := ρ) (σ := σ) (a := a) pp_X9_row (Nat.le_of_ble_eq_true rfl) (g_X9_row h1 hI (xs (i + 1).toNatClampNeg) (xs (i + 2).toNatClampNeg) (xs (i + 3).toNatClampNeg))
  obtain ⟨hI2, fr2, ⟨xr2_0, xr2_1, -⟩, z2, rfl, -, hz2, -⟩ := hq
  refine c_L (n := 3) (v := 96) (As := [.inl (xs (i + 1).toNatClampNeg), .inl (xs (i + 2).toNatClampNeg), .inl (xs (i + 3).toNatClampNeg)]) (rest := []) ⟨hx, hb, hml, hown, hT⟩ hK hM hA hP hD hS pp_X9_row hM1 sh_96 mw_606 mw_607 mw_608 mw_173 (by decide +kernel) rfl ⟨Nat.le_of_ble_eq_true rfl, Nat.le_of_ble_eq_true rfl⟩ hl.1 (Nat.le_of_ble_eq_true rfl) rfl dL_law_2003 ⟨Nat.le_of_ble_eq_true rfl, Nat.le_of_ble_eq_true rfl⟩ (fun H locs hP hD hS => ?_)
  have hI := hI2
  show LG p l e s m b below meth c H locs (F0 m 2006 ls [.int z2])
  refine lv_pop hx hb dL_law_2006 rfl ?_
  refine lv_goto (tgt := 2146) hx hb dL_law_2007 (by decide) ?_
  exact hend _ _ _ _ hI (REL_row fr1 fr2 (by decide) (by decide) xr1_0 xr1_1 xr2_0 xr2_1 hJ) hP hD hS hl
set_option maxRecDepth 100000 in
set_option maxHeartbeats 4000000 in
theorem lc_72 {p : Program} {l : Launch} {e : Env} {s : State} {m : MethodId} {below : List Frame} {meth : Method} {c : Code} {dC : Nat → ClassId} {dI : Nat → Nat → Nat} {b L : Nat} {xs : Nat → Int32} {H : Heap} {locs : List Loc} {ls : Array Slot} {ρ : Nat → Nat} {σ : Nat → Option Nat} {a : Nat → ClassId} {h : PH} {i : Int32} (C0 : lw_At p s m meth c b L xs) (hK : va_K (dC, dI) vwCl (tysP a) s) (hM : AMB σ (fun q : Nat => s.heap.size ≤ q) s s.heap) (hI : INV h) (hJ : REL h) (hP : va_P (dC, dI) vwCl (toW ρ a h) H) (hD : va_D (fun q : Nat => s.heap.size ≤ q) (toW ρ a h)) (hS : va_S (fun q : Nat => s.heap.size ≤ q) s.heap H locs) (hl : lv_has ls 4 [(0, .ref b), (1, .ref (ρ 0)), (2, .ref (ρ 96)), (3, .int i)]) (hi : 0 ≤ i.toInt ∧ i.toInt + 6 ≤ (L : Int) ∧ L ≤ 384) (hend : ∀ (H : Heap) (locs : List Loc) (ls : Array Slot) (h : PH), INV h → REL h → va_P (dC, dI) vwCl (toW ρ a h) H → va_D (fun q : Nat => s.heap.size ≤ q) (toW ρ a h) → va_S (fun q : Nat => s.heap.size ≤ q) s.heap H locs → lv_has ls 4 [(0, .ref b), (1, .ref (ρ 0)), (2, .ref (ρ 96)), (3, .int i)] → LG p l e s m b below meth c H locs (F0 m 2146 ls [])) : LG p l e s m b below meth c H locs (F0 m 2010 ls []) := by
  obtain ⟨hx, hb, hr, hml, hown, hts, hX, hbl, hlocks, hgv⟩ := C0
  have hT : ∀ w ∈ TB, w.before #[Value.ref b] s = true := fun w h => hts w (TB_lw h)
  have hown : s.vm.findClass RL = some m.cls := hown
  have hA : ∀ q : Nat, s.heap.size ≤ q → (fun q : Nat => s.heap.size ≤ q) q := fun _ h => h
  have hbA : ¬ (fun q : Nat => s.heap.size ≤ q) b := Nat.not_le.mpr hbl
  refine lv_aload_n hx hb dL_law_2010 rfl (lv_at hl 1 rfl) ?_
  refine lv_aload_n hx hb dL_law_2011 rfl (lv_at hl 0 rfl) ?_
  refine lv_iload_n hx hb dL_law_2012 rfl (lv_at hl 3 rfl) ?_
  refine lv_iconst (v := 1) hx hb dL_law_2013 (by decide) ?_
  refine lv_iadd hx hb dL_law_2014 ?_
  refine va_sld hx hb hX hbl hbA hS (in_s hi (k := 1) (by decide)) dL_law_2015 ?_
  refine lv_aload_n hx hb dL_law_2016 rfl (lv_at hl 0 rfl) ?_
  refine lv_iload_n hx hb dL_law_2017 rfl (lv_at hl 3 rfl) ?_
  refine lv_iconst (v := 2) hx hb dL_law_2018 (by decide) ?_
  refine lv_iadd hx hb dL_law_2019 ?_
  refine va_sld hx hb hX hbl hbA hS (in_s hi (k := 2) (by decide)) dL_law_2020 ?_
  refine lv_aload_n hx hb dL_law_2021 rfl (lv_at hl 0 rfl) ?_
  refine lv_iload_n hx hb dL_law_2022 rfl (lv_at hl 3 rfl) ?_
  refine lv_iconst (v := 3) hx hb dL_law_2023 (by decide) ?_
  refine lv_iadd hx hb dL_law_2024 ?_
  refine va_sld hx hb hX hbl hbA hS (in_s hi (k := 3) (by decide)) dL_law_2025 ?_
  refine lv_i2l (v := (xs (i + 3).toNatClampNeg).toInt64) hx hb dL_law_2026 rfl ?_
  refine lv_bipush (v := 32) hx hb dL_law_2027 (by decide) ?_
  refine lv_lshl hx hb dL_law_2029 rfl ?_
  refine lv_topl (fun y1 _ => ?_)
  refine lv_aload_n hx hb dL_law_2030 rfl (lv_at hl 0 rfl) ?_
  refine lv_iload_n hx hb dL_law_2031 rfl (lv_at hl 3 rfl) ?_
  refine lv_iconst (v := 4) hx hb dL_law_2032 (by decide) ?_
  refine lv_iadd hx hb dL_law_2033 ?_
  refine va_sld hx hb hX hbl hbA hS (in_s hi (k := 4) (by decide)) dL_law_2034 ?_
  refine lv_i2l (v := (xs (i + 4).toNatClampNeg).toInt64) hx hb dL_law_2035 rfl ?_
  refine lv_ldc2 (v := 4294967295) hx hb hown (hT _ mw_609) dL_law_2036 ?_
  refine lv_land hx hb dL_law_2039 ?_
  refine lv_topl (fun y2 _ => ?_)
  refine lv_lor hx hb dL_law_2040 ?_
  refine lv_topl (fun y3 _ => ?_)
  obtain ⟨r1, h1, hq, hM1⟩ := CALL_met (l := l) (dC := dC) (dI := dI) (ρ := ρ) (σ := σ) (a := a) pp_X8_write (Nat.le_of_ble_eq_true rfl) (k_X8_write h hI (xs (i + 1).toNatClampNeg) (xs (i + 2).toNatClampNeg) y3)
  obtain ⟨hI1, fr1, -, z1, rfl, -⟩ := hq
  refine c_L (n := 3) (v := 0) (As := [.inl (xs (i + 1).toNatClampNeg), .inl (xs (i + 2).toNatClampNeg), .inr (.inl y3)]) (rest := []) ⟨hx, hb, hml, hown, hT⟩ hK hM hA hP hD hS pp_X8_write hM1 sh_0 mw_610 mw_611 mw_612 mw_168 (by decide +kernel) rfl ⟨Nat.le_of_ble_eq_true rfl, Nat.le_of_ble_eq_true rfl⟩ hl.1 (Nat.le_of_ble_eq_true rfl) rfl dL_law_2041 ⟨Nat.le_of_ble_eq_true rfl, Nat.le_of_ble_eq_true rfl⟩ (fun H locs hP hD hS => ?_)
  have hI := hI1
  show LG p l e s m b below meth c H locs (F0 m 2044 ls [.int z1])
  refine lv_pop hx hb dL_law_2044 rfl ?_
  refine lv_aload_n hx hb dL_law_2045 rfl (lv_at hl 2 rfl) ?_
  refine lv_aload_n hx hb dL_law_2046 rfl (lv_at hl 0 rfl) ?_
  refine lv_iload_n hx hb dL_law_2047 rfl (lv_at hl 3 rfl) ?_
  refine lv_iconst (v := 1) hx hb dL_law_2048 (by decide) ?_
  refine lv_iadd hx hb dL_law_2049 ?_
  refine va_sld hx hb hX hbl hbA hS (in_s hi (k := 1) (by decide)) dL_law_2050 ?_
  refine lv_aload_n hx hb dL_law_2051 rfl (lv_at hl 0 rfl) ?_
  refine lv_iload_n hx hb dL_law_2052 rfl (lv_at hl 3 rfl) ?_
  refine lv_iconst (v := 2) hx hb dL_law_2053 (by decide) ?_
  refine lv_iadd hx hb dL_law_2054 ?_
  refine va_sld hx hb hX hbl hbA hS (in_s hi (k := 2) (by decide)) dL_law_2055 ?_
  refine lv_aload_n hx hb dL_law_2056 rfl (lv_at hl 0 rfl) ?_
  refine lv_iload_n hx hb dL_law_2057 rfl (lv_at hl 3 rfl) ?_
  refine lv_iconst (v := 3) hx hb dL_law_2058 (by decide) ?_
  refine lv_iadd hx hb dL_law_2059 ?_
  refine va_sld hx hb hX hbl hbA hS (in_s hi (k := 3) (by decide)) dL_law_2060 ?_
  refine lv_i2l (v := (xs (i + 3).toNatClampNeg).toInt64) hx hb dL_law_2061 rfl ?_
  refine lv_bipush (v := 32) hx hb dL_law_2062 (by decide) ?_
  refine lv_lshl hx hb dL_law_2064 rfl ?_
  refine lv_topl (fun y4 _ => ?_)
  refine lv_aload_n hx hb dL_law_2065 rfl (lv_at hl 0 rfl) ?_
  refine lv_iload_n hx hb dL_law_2066 rfl (lv_at hl 3 rfl) ?_
  refine lv_iconst (v := 4) hx hb dL_law_2067 (by decide) ?_
  refine lv_iadd hx hb dL_law_2068 ?_
  refine va_sld hx hb hX hbl hbA hS (in_s hi (k := 4) (by decide)) dL_law_2069 ?_
  refine lv_i2l (v := (xs (i + 4).toNatClampNeg).toInt64) hx hb dL_law_2070 rfl ?_
  refine lv_ldc2 (v := 4294967295) hx hb hown (hT _ mw_609) dL_law_2071 ?_
  refine lv_land hx hb dL_law_2074 ?_
  refine lv_topl (fun y5 _ => ?_)
  refine lv_lor hx hb dL_law_2075 ?_
  refine lv_topl (fun y6 _ => ?_)
  obtain ⟨r2, h2, hq, hM1⟩ := CALL_met (l := l) (dC := dC) (dI := dI) (ρ := ρ) (σ := σ) (a := a) pp_X9_write (Nat.le_of_ble_eq_true rfl) (k_X9_write h1 hI (xs (i + 1).toNatClampNeg) (xs (i + 2).toNatClampNeg) y6)
  obtain ⟨hI2, fr2, -, z2, rfl, -⟩ := hq
  refine c_L (n := 3) (v := 96) (As := [.inl (xs (i + 1).toNatClampNeg), .inl (xs (i + 2).toNatClampNeg), .inr (.inl y6)]) (rest := []) ⟨hx, hb, hml, hown, hT⟩ hK hM hA hP hD hS pp_X9_write hM1 sh_96 mw_613 mw_614 mw_615 mw_173 (by decide +kernel) rfl ⟨Nat.le_of_ble_eq_true rfl, Nat.le_of_ble_eq_true rfl⟩ hl.1 (Nat.le_of_ble_eq_true rfl) rfl dL_law_2076 ⟨Nat.le_of_ble_eq_true rfl, Nat.le_of_ble_eq_true rfl⟩ (fun H locs hP hD hS => ?_)
  have hI := hI2
  show LG p l e s m b below meth c H locs (F0 m 2079 ls [.int z2])
  refine lv_pop hx hb dL_law_2079 rfl ?_
  refine lv_goto (tgt := 2146) hx hb dL_law_2080 (by decide) ?_
  exact hend _ _ _ _ hI (REL_fr fr1 fr2 (by decide) (by decide) hJ) hP hD hS hl
set_option maxRecDepth 100000 in
set_option maxHeartbeats 4000000 in
theorem lc_73 {p : Program} {l : Launch} {e : Env} {s : State} {m : MethodId} {below : List Frame} {meth : Method} {c : Code} {dC : Nat → ClassId} {dI : Nat → Nat → Nat} {b L : Nat} {xs : Nat → Int32} {H : Heap} {locs : List Loc} {ls : Array Slot} {ρ : Nat → Nat} {σ : Nat → Option Nat} {a : Nat → ClassId} {h : PH} {i : Int32} (C0 : lw_At p s m meth c b L xs) (hK : va_K (dC, dI) vwCl (tysP a) s) (hM : AMB σ (fun q : Nat => s.heap.size ≤ q) s s.heap) (hI : INV h) (hJ : REL h) (hP : va_P (dC, dI) vwCl (toW ρ a h) H) (hD : va_D (fun q : Nat => s.heap.size ≤ q) (toW ρ a h)) (hS : va_S (fun q : Nat => s.heap.size ≤ q) s.heap H locs) (hl : lv_has ls 4 [(0, .ref b), (1, .ref (ρ 0)), (2, .ref (ρ 96)), (3, .int i)]) (hi : 0 ≤ i.toInt ∧ i.toInt + 6 ≤ (L : Int) ∧ L ≤ 384) (hend : ∀ (H : Heap) (locs : List Loc) (ls : Array Slot) (h : PH), INV h → REL h → va_P (dC, dI) vwCl (toW ρ a h) H → va_D (fun q : Nat => s.heap.size ≤ q) (toW ρ a h) → va_S (fun q : Nat => s.heap.size ≤ q) s.heap H locs → lv_has ls 4 [(0, .ref b), (1, .ref (ρ 0)), (2, .ref (ρ 96)), (3, .int i)] → LG p l e s m b below meth c H locs (F0 m 2146 ls [])) : LG p l e s m b below meth c H locs (F0 m 2083 ls []) := by
  obtain ⟨hx, hb, hr, hml, hown, hts, hX, hbl, hlocks, hgv⟩ := C0
  have hT : ∀ w ∈ TB, w.before #[Value.ref b] s = true := fun w h => hts w (TB_lw h)
  have hown : s.vm.findClass RL = some m.cls := hown
  have hA : ∀ q : Nat, s.heap.size ≤ q → (fun q : Nat => s.heap.size ≤ q) q := fun _ h => h
  have hbA : ¬ (fun q : Nat => s.heap.size ≤ q) b := Nat.not_le.mpr hbl
  refine lv_aload_n hx hb dL_law_2083 rfl (lv_at hl 1 rfl) ?_
  refine lv_aload_n hx hb dL_law_2084 rfl (lv_at hl 0 rfl) ?_
  refine lv_iload_n hx hb dL_law_2085 rfl (lv_at hl 3 rfl) ?_
  refine lv_iconst (v := 1) hx hb dL_law_2086 (by decide) ?_
  refine lv_iadd hx hb dL_law_2087 ?_
  refine va_sld hx hb hX hbl hbA hS (in_s hi (k := 1) (by decide)) dL_law_2088 ?_
  refine lv_aload_n hx hb dL_law_2089 rfl (lv_at hl 0 rfl) ?_
  refine lv_iload_n hx hb dL_law_2090 rfl (lv_at hl 3 rfl) ?_
  refine lv_iconst (v := 2) hx hb dL_law_2091 (by decide) ?_
  refine lv_iadd hx hb dL_law_2092 ?_
  refine va_sld hx hb hX hbl hbA hS (in_s hi (k := 2) (by decide)) dL_law_2093 ?_
  refine lv_aload_n hx hb dL_law_2094 rfl (lv_at hl 0 rfl) ?_
  refine lv_iload_n hx hb dL_law_2095 rfl (lv_at hl 3 rfl) ?_
  refine lv_iconst (v := 3) hx hb dL_law_2096 (by decide) ?_
  refine lv_iadd hx hb dL_law_2097 ?_
  refine va_sld hx hb hX hbl hbA hS (in_s hi (k := 3) (by decide)) dL_law_2098 ?_
  refine lv_aload_n hx hb dL_law_2099 rfl (lv_at hl 0 rfl) ?_
  refine lv_iload_n hx hb dL_law_2100 rfl (lv_at hl 3 rfl) ?_
  refine lv_iconst (v := 4) hx hb dL_law_2101 (by decide) ?_
  refine lv_iadd hx hb dL_law_2102 ?_
  refine va_sld hx hb hX hbl hbA hS (in_s hi (k := 4) (by decide)) dL_law_2103 ?_
  refine lv_aload_n hx hb dL_law_2104 rfl (lv_at hl 0 rfl) ?_
  refine lv_iload_n hx hb dL_law_2105 rfl (lv_at hl 3 rfl) ?_
  refine lv_iconst (v := 5) hx hb dL_law_2106 (by decide) ?_
  refine lv_iadd hx hb dL_law_2107 ?_
  refine va_sld hx hb hX hbl hbA hS (in_s hi (k := 5) (by decide)) dL_law_2108 ?_
  obtain ⟨r1, h1, hq, hM1⟩ := CALL_met (l := l) (dC := dC) (dI := dI) (ρ := ρ) (σ := σ) (a := a) pp_X8_paste (Nat.le_of_ble_eq_true rfl) (k_X8_paste h hI (xs (i + 1).toNatClampNeg) (xs (i + 2).toNatClampNeg) (xs (i + 3).toNatClampNeg) (xs (i + 4).toNatClampNeg) (xs (i + 5).toNatClampNeg))
  obtain ⟨hI1, fr1, -, z1, rfl, -⟩ := hq
  refine c_L (n := 5) (v := 0) (As := [.inl (xs (i + 1).toNatClampNeg), .inl (xs (i + 2).toNatClampNeg), .inl (xs (i + 3).toNatClampNeg), .inl (xs (i + 4).toNatClampNeg), .inl (xs (i + 5).toNatClampNeg)]) (rest := []) ⟨hx, hb, hml, hown, hT⟩ hK hM hA hP hD hS pp_X8_paste hM1 sh_0 mw_616 mw_617 mw_618 mw_168 (by decide +kernel) rfl ⟨Nat.le_of_ble_eq_true rfl, Nat.le_of_ble_eq_true rfl⟩ hl.1 (Nat.le_of_ble_eq_true rfl) rfl dL_law_2109 ⟨Nat.le_of_ble_eq_true rfl, Nat.le_of_ble_eq_true rfl⟩ (fun H locs hP hD hS => ?_)
  have hI := hI1
  show LG p l e s m b below meth c H locs (F0 m 2112 ls [.int z1])
  refine lv_pop hx hb dL_law_2112 rfl ?_
  refine lv_aload_n hx hb dL_law_2113 rfl (lv_at hl 2 rfl) ?_
  refine lv_aload_n hx hb dL_law_2114 rfl (lv_at hl 0 rfl) ?_
  refine lv_iload_n hx hb dL_law_2115 rfl (lv_at hl 3 rfl) ?_
  refine lv_iconst (v := 1) hx hb dL_law_2116 (by decide) ?_
  refine lv_iadd hx hb dL_law_2117 ?_
  refine va_sld hx hb hX hbl hbA hS (in_s hi (k := 1) (by decide)) dL_law_2118 ?_
  refine lv_aload_n hx hb dL_law_2119 rfl (lv_at hl 0 rfl) ?_
  refine lv_iload_n hx hb dL_law_2120 rfl (lv_at hl 3 rfl) ?_
  refine lv_iconst (v := 2) hx hb dL_law_2121 (by decide) ?_
  refine lv_iadd hx hb dL_law_2122 ?_
  refine va_sld hx hb hX hbl hbA hS (in_s hi (k := 2) (by decide)) dL_law_2123 ?_
  refine lv_aload_n hx hb dL_law_2124 rfl (lv_at hl 0 rfl) ?_
  refine lv_iload_n hx hb dL_law_2125 rfl (lv_at hl 3 rfl) ?_
  refine lv_iconst (v := 3) hx hb dL_law_2126 (by decide) ?_
  refine lv_iadd hx hb dL_law_2127 ?_
  refine va_sld hx hb hX hbl hbA hS (in_s hi (k := 3) (by decide)) dL_law_2128 ?_
  refine lv_aload_n hx hb dL_law_2129 rfl (lv_at hl 0 rfl) ?_
  refine lv_iload_n hx hb dL_law_2130 rfl (lv_at hl 3 rfl) ?_
  refine lv_iconst (v := 4) hx hb dL_law_2131 (by decide) ?_
  refine lv_iadd hx hb dL_law_2132 ?_
  refine va_sld hx hb hX hbl hbA hS (in_s hi (k := 4) (by decide)) dL_law_2133 ?_
  refine lv_aload_n hx hb dL_law_2134 rfl (lv_at hl 0 rfl) ?_
  refine lv_iload_n hx hb dL_law_2135 rfl (lv_at hl 3 rfl) ?_
  refine lv_iconst (v := 5) hx hb dL_law_2136 (by decide) ?_
  refine lv_iadd hx hb dL_law_2137 ?_
  refine va_sld hx hb hX hbl hbA hS (in_s hi (k := 5) (by decide)) dL_law_2138 ?_
  obtain ⟨r2, h2, hq, hM1⟩ := CALL_met (l := l) (dC := dC) (dI := dI) (ρ := ρ) (σ := σ) (a := a) pp_X9_paste (Nat.le_of_ble_eq_true rfl) (k_X9_paste h1 hI (xs (i + 1).toNatClampNeg) (xs (i + 2).toNatClampNeg) (xs (i + 3).toNatClampNeg) (xs (i + 4).toNatClampNeg) (xs (i + 5).toNatClampNeg))
  obtain ⟨hI2, fr2, -, z2, rfl, -⟩ := hq
  refine c_L (n := 5) (v := 96) (As := [.inl (xs (i + 1).toNatClampNeg), .inl (xs (i + 2).toNatClampNeg), .inl (xs (i + 3).toNatClampNeg), .inl (xs (i + 4).toNatClampNeg), .inl (xs (i + 5).toNatClampNeg)]) (rest := []) ⟨hx, hb, hml, hown, hT⟩ hK hM hA hP hD hS pp_X9_paste hM1 sh_96 mw_619 mw_620 mw_621 mw_173 (by decide +kernel) rfl ⟨Nat.le_of_ble_eq_true rfl, Nat.le_of_ble_eq_true rfl⟩ hl.1 (Nat.le_of_ble_eq_true rfl) rfl dL_law_2139 ⟨Nat.le_of_ble_eq_true rfl, Nat.le_of_ble_eq_true rfl⟩ (fun H locs hP hD hS => ?_)
  have hI := hI2
  show LG p l e s m b below meth c H locs (F0 m 2142 ls [.int z2])
  refine lv_pop hx hb dL_law_2142 rfl ?_
  refine lv_goto (tgt := 2146) hx hb dL_law_2143 (by decide) ?_
  exact hend _ _ _ _ hI (REL_fr fr1 fr2 (by decide) (by decide) hJ) hP hD hS hl
