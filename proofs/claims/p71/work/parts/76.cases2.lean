set_option maxRecDepth 100000 in
set_option maxHeartbeats 4000000 in
theorem lc_20 {p : Program} {l : Launch} {e : Env} {s : State} {m : MethodId} {below : List Frame} {meth : Method} {c : Code} {dC : Nat → ClassId} {dI : Nat → Nat → Nat} {b L : Nat} {xs : Nat → Int32} {H : Heap} {locs : List Loc} {ls : Array Slot} {ρ : Nat → Nat} {σ : Nat → Option Nat} {a : Nat → ClassId} {h : PH} {i : Int32} (C0 : lw_At p s m meth c b L xs) (hK : va_K (dC, dI) vwCl (tysP a) s) (hM : AMB σ (fun q : Nat => s.heap.size ≤ q) s s.heap) (hI : INV h) (hJ : REL h) (hP : va_P (dC, dI) vwCl (toW ρ a h) H) (hD : va_D (fun q : Nat => s.heap.size ≤ q) (toW ρ a h)) (hS : va_S (fun q : Nat => s.heap.size ≤ q) s.heap H locs) (hl : lv_has ls 4 [(0, .ref b), (1, .ref (ρ 0)), (2, .ref (ρ 96)), (3, .int i)]) (hi : 0 ≤ i.toInt ∧ i.toInt + 6 ≤ (L : Int) ∧ L ≤ 384) (hend : ∀ (H : Heap) (locs : List Loc) (ls : Array Slot) (h : PH), INV h → REL h → va_P (dC, dI) vwCl (toW ρ a h) H → va_D (fun q : Nat => s.heap.size ≤ q) (toW ρ a h) → va_S (fun q : Nat => s.heap.size ≤ q) s.heap H locs → lv_has ls 4 [(0, .ref b), (1, .ref (ρ 0)), (2, .ref (ρ 96)), (3, .int i)] → LG p l e s m b below meth c H locs (F0 m 2146 ls [])) : LG p l e s m b below meth c H locs (F0 m 854 ls []) := by
  obtain ⟨hx, hb, hr, hml, hown, hts, hX, hbl, hlocks, hgv⟩ := C0
  have hT : ∀ w ∈ TB, w.before #[Value.ref b] s = true := fun w h => hts w (TB_lw h)
  have hown : s.vm.findClass RL = some m.cls := hown
  have hA : ∀ q : Nat, s.heap.size ≤ q → (fun q : Nat => s.heap.size ≤ q) q := fun _ h => h
  have hbA : ¬ (fun q : Nat => s.heap.size ≤ q) b := Nat.not_le.mpr hbl
  refine lv_aload_n hx hb dL_law_854 rfl (lv_at hl 1 rfl) ?_
  refine lv_aload_n hx hb dL_law_855 rfl (lv_at hl 0 rfl) ?_
  refine lv_iload_n hx hb dL_law_856 rfl (lv_at hl 3 rfl) ?_
  refine lv_iconst (v := 1) hx hb dL_law_857 (by decide) ?_
  refine lv_iadd hx hb dL_law_858 ?_
  refine va_sld hx hb hX hbl hbA hS (in_s hi (k := 1) (by decide)) dL_law_859 ?_
  obtain ⟨r1, h1, hq, hM1⟩ := CALL_met (l := l) (dC := dC) (dI := dI) (ρ := ρ) (σ := σ) (a := a) pp_X8_when (Nat.le_of_ble_eq_true rfl) (k_X8_when h hI (xs (i + 1).toNatClampNeg))
  obtain ⟨hI1, fr1, -, z1, rfl, -⟩ := hq
  refine c_L (n := 1) (v := 0) (As := [.inl (xs (i + 1).toNatClampNeg)]) (rest := []) ⟨hx, hb, hml, hown, hT⟩ hK hM hA hP hD hS pp_X8_when hM1 sh_0 mw_297 mw_298 mw_299 mw_168 (by decide +kernel) rfl ⟨Nat.le_of_ble_eq_true rfl, Nat.le_of_ble_eq_true rfl⟩ hl.1 (Nat.le_of_ble_eq_true rfl) rfl dL_law_860 ⟨Nat.le_of_ble_eq_true rfl, Nat.le_of_ble_eq_true rfl⟩ (fun H locs hP hD hS => ?_)
  have hI := hI1
  show LG p l e s m b below meth c H locs (F0 m 863 ls [.int z1])
  refine lv_pop hx hb dL_law_863 rfl ?_
  refine lv_aload_n hx hb dL_law_864 rfl (lv_at hl 2 rfl) ?_
  refine lv_aload_n hx hb dL_law_865 rfl (lv_at hl 0 rfl) ?_
  refine lv_iload_n hx hb dL_law_866 rfl (lv_at hl 3 rfl) ?_
  refine lv_iconst (v := 1) hx hb dL_law_867 (by decide) ?_
  refine lv_iadd hx hb dL_law_868 ?_
  refine va_sld hx hb hX hbl hbA hS (in_s hi (k := 1) (by decide)) dL_law_869 ?_
  obtain ⟨r2, h2, hq, hM1⟩ := CALL_met (l := l) (dC := dC) (dI := dI) (ρ := ρ) (σ := σ) (a := a) pp_X9_when (Nat.le_of_ble_eq_true rfl) (k_X9_when h1 hI (xs (i + 1).toNatClampNeg))
  obtain ⟨hI2, fr2, -, z2, rfl, -⟩ := hq
  refine c_L (n := 1) (v := 96) (As := [.inl (xs (i + 1).toNatClampNeg)]) (rest := []) ⟨hx, hb, hml, hown, hT⟩ hK hM hA hP hD hS pp_X9_when hM1 sh_96 mw_300 mw_301 mw_302 mw_173 (by decide +kernel) rfl ⟨Nat.le_of_ble_eq_true rfl, Nat.le_of_ble_eq_true rfl⟩ hl.1 (Nat.le_of_ble_eq_true rfl) rfl dL_law_870 ⟨Nat.le_of_ble_eq_true rfl, Nat.le_of_ble_eq_true rfl⟩ (fun H locs hP hD hS => ?_)
  have hI := hI2
  show LG p l e s m b below meth c H locs (F0 m 873 ls [.int z2])
  refine lv_pop hx hb dL_law_873 rfl ?_
  refine lv_goto (tgt := 2146) hx hb dL_law_874 (by decide) ?_
  exact hend _ _ _ _ hI (REL_fr fr1 fr2 (by decide) (by decide) hJ) hP hD hS hl
set_option maxRecDepth 100000 in
set_option maxHeartbeats 4000000 in
theorem lc_21 {p : Program} {l : Launch} {e : Env} {s : State} {m : MethodId} {below : List Frame} {meth : Method} {c : Code} {dC : Nat → ClassId} {dI : Nat → Nat → Nat} {b L : Nat} {xs : Nat → Int32} {H : Heap} {locs : List Loc} {ls : Array Slot} {ρ : Nat → Nat} {σ : Nat → Option Nat} {a : Nat → ClassId} {h : PH} {i : Int32} (C0 : lw_At p s m meth c b L xs) (hK : va_K (dC, dI) vwCl (tysP a) s) (hM : AMB σ (fun q : Nat => s.heap.size ≤ q) s s.heap) (hI : INV h) (hJ : REL h) (hP : va_P (dC, dI) vwCl (toW ρ a h) H) (hD : va_D (fun q : Nat => s.heap.size ≤ q) (toW ρ a h)) (hS : va_S (fun q : Nat => s.heap.size ≤ q) s.heap H locs) (hl : lv_has ls 4 [(0, .ref b), (1, .ref (ρ 0)), (2, .ref (ρ 96)), (3, .int i)]) (hi : 0 ≤ i.toInt ∧ i.toInt + 6 ≤ (L : Int) ∧ L ≤ 384) (hend : ∀ (H : Heap) (locs : List Loc) (ls : Array Slot) (h : PH), INV h → REL h → va_P (dC, dI) vwCl (toW ρ a h) H → va_D (fun q : Nat => s.heap.size ≤ q) (toW ρ a h) → va_S (fun q : Nat => s.heap.size ≤ q) s.heap H locs → lv_has ls 4 [(0, .ref b), (1, .ref (ρ 0)), (2, .ref (ρ 96)), (3, .int i)] → LG p l e s m b below meth c H locs (F0 m 2146 ls [])) : LG p l e s m b below meth c H locs (F0 m 877 ls []) := by
  obtain ⟨hx, hb, hr, hml, hown, hts, hX, hbl, hlocks, hgv⟩ := C0
  have hT : ∀ w ∈ TB, w.before #[Value.ref b] s = true := fun w h => hts w (TB_lw h)
  have hown : s.vm.findClass RL = some m.cls := hown
  have hA : ∀ q : Nat, s.heap.size ≤ q → (fun q : Nat => s.heap.size ≤ q) q := fun _ h => h
  have hbA : ¬ (fun q : Nat => s.heap.size ≤ q) b := Nat.not_le.mpr hbl
  refine lv_aload_n hx hb dL_law_877 rfl (lv_at hl 1 rfl) ?_
  obtain ⟨r1, h1, hq, hM1⟩ := CALL_met (l := l) (dC := dC) (dI := dI) (ρ := ρ) (σ := σ) (a := a) pp_X8_gap (Nat.le_of_ble_eq_true rfl) (k_X8_gap h hI )
  obtain ⟨hI1, fr1, -, z1, rfl, -⟩ := hq
  refine c_L (n := 0) (v := 0) (As := []) (rest := []) ⟨hx, hb, hml, hown, hT⟩ hK hM hA hP hD hS pp_X8_gap hM1 sh_0 mw_303 mw_304 mw_305 mw_168 (by decide +kernel) rfl ⟨Nat.le_of_ble_eq_true rfl, Nat.le_of_ble_eq_true rfl⟩ hl.1 (Nat.le_of_ble_eq_true rfl) rfl dL_law_878 ⟨Nat.le_of_ble_eq_true rfl, Nat.le_of_ble_eq_true rfl⟩ (fun H locs hP hD hS => ?_)
  have hI := hI1
  show LG p l e s m b below meth c H locs (F0 m 881 ls [.int z1])
  refine lv_pop hx hb dL_law_881 rfl ?_
  refine lv_aload_n hx hb dL_law_882 rfl (lv_at hl 2 rfl) ?_
  obtain ⟨r2, h2, hq, hM1⟩ := CALL_met (l := l) (dC := dC) (dI := dI) (ρ := ρ) (σ := σ) (a := a) pp_X9_gap (Nat.le_of_ble_eq_true rfl) (k_X9_gap h1 hI )
  obtain ⟨hI2, fr2, -, z2, rfl, -⟩ := hq
  refine c_L (n := 0) (v := 96) (As := []) (rest := []) ⟨hx, hb, hml, hown, hT⟩ hK hM hA hP hD hS pp_X9_gap hM1 sh_96 mw_306 mw_307 mw_308 mw_173 (by decide +kernel) rfl ⟨Nat.le_of_ble_eq_true rfl, Nat.le_of_ble_eq_true rfl⟩ hl.1 (Nat.le_of_ble_eq_true rfl) rfl dL_law_883 ⟨Nat.le_of_ble_eq_true rfl, Nat.le_of_ble_eq_true rfl⟩ (fun H locs hP hD hS => ?_)
  have hI := hI2
  show LG p l e s m b below meth c H locs (F0 m 886 ls [.int z2])
  refine lv_pop hx hb dL_law_886 rfl ?_
  refine lv_goto (tgt := 2146) hx hb dL_law_887 (by decide) ?_
  exact hend _ _ _ _ hI (REL_fr fr1 fr2 (by decide) (by decide) hJ) hP hD hS hl
set_option maxRecDepth 100000 in
set_option maxHeartbeats 4000000 in
theorem lc_22 {p : Program} {l : Launch} {e : Env} {s : State} {m : MethodId} {below : List Frame} {meth : Method} {c : Code} {dC : Nat → ClassId} {dI : Nat → Nat → Nat} {b L : Nat} {xs : Nat → Int32} {H : Heap} {locs : List Loc} {ls : Array Slot} {ρ : Nat → Nat} {σ : Nat → Option Nat} {a : Nat → ClassId} {h : PH} {i : Int32} (C0 : lw_At p s m meth c b L xs) (hK : va_K (dC, dI) vwCl (tysP a) s) (hM : AMB σ (fun q : Nat => s.heap.size ≤ q) s s.heap) (hI : INV h) (hJ : REL h) (hP : va_P (dC, dI) vwCl (toW ρ a h) H) (hD : va_D (fun q : Nat => s.heap.size ≤ q) (toW ρ a h)) (hS : va_S (fun q : Nat => s.heap.size ≤ q) s.heap H locs) (hl : lv_has ls 4 [(0, .ref b), (1, .ref (ρ 0)), (2, .ref (ρ 96)), (3, .int i)]) (hi : 0 ≤ i.toInt ∧ i.toInt + 6 ≤ (L : Int) ∧ L ≤ 384) (hend : ∀ (H : Heap) (locs : List Loc) (ls : Array Slot) (h : PH), INV h → REL h → va_P (dC, dI) vwCl (toW ρ a h) H → va_D (fun q : Nat => s.heap.size ≤ q) (toW ρ a h) → va_S (fun q : Nat => s.heap.size ≤ q) s.heap H locs → lv_has ls 4 [(0, .ref b), (1, .ref (ρ 0)), (2, .ref (ρ 96)), (3, .int i)] → LG p l e s m b below meth c H locs (F0 m 2146 ls [])) : LG p l e s m b below meth c H locs (F0 m 890 ls []) := by
  obtain ⟨hx, hb, hr, hml, hown, hts, hX, hbl, hlocks, hgv⟩ := C0
  have hT : ∀ w ∈ TB, w.before #[Value.ref b] s = true := fun w h => hts w (TB_lw h)
  have hown : s.vm.findClass RL = some m.cls := hown
  have hA : ∀ q : Nat, s.heap.size ≤ q → (fun q : Nat => s.heap.size ≤ q) q := fun _ h => h
  have hbA : ¬ (fun q : Nat => s.heap.size ≤ q) b := Nat.not_le.mpr hbl
  refine lv_aload_n hx hb dL_law_890 rfl (lv_at hl 1 rfl) ?_
  refine lv_aload_n hx hb dL_law_891 rfl (lv_at hl 0 rfl) ?_
  refine lv_iload_n hx hb dL_law_892 rfl (lv_at hl 3 rfl) ?_
  refine lv_iconst (v := 1) hx hb dL_law_893 (by decide) ?_
  refine lv_iadd hx hb dL_law_894 ?_
  refine va_sld hx hb hX hbl hbA hS (in_s hi (k := 1) (by decide)) dL_law_895 ?_
  obtain ⟨r1, h1, hq, hM1⟩ := CALL_met (l := l) (dC := dC) (dI := dI) (ρ := ρ) (σ := σ) (a := a) pp_X8_ready (Nat.le_of_ble_eq_true rfl) (k_X8_ready h hI (xs (i + 1).toNatClampNeg))
  obtain ⟨hI1, fr1, -, z1, rfl, -⟩ := hq
  refine c_L (n := 1) (v := 0) (As := [.inl (xs (i + 1).toNatClampNeg)]) (rest := []) ⟨hx, hb, hml, hown, hT⟩ hK hM hA hP hD hS pp_X8_ready hM1 sh_0 mw_309 mw_310 mw_311 mw_168 (by decide +kernel) rfl ⟨Nat.le_of_ble_eq_true rfl, Nat.le_of_ble_eq_true rfl⟩ hl.1 (Nat.le_of_ble_eq_true rfl) rfl dL_law_896 ⟨Nat.le_of_ble_eq_true rfl, Nat.le_of_ble_eq_true rfl⟩ (fun H locs hP hD hS => ?_)
  have hI := hI1
  show LG p l e s m b below meth c H locs (F0 m 899 ls [.int z1])
  refine lv_pop hx hb dL_law_899 rfl ?_
  refine lv_aload_n hx hb dL_law_900 rfl (lv_at hl 2 rfl) ?_
  refine lv_aload_n hx hb dL_law_901 rfl (lv_at hl 0 rfl) ?_
  refine lv_iload_n hx hb dL_law_902 rfl (lv_at hl 3 rfl) ?_
  refine lv_iconst (v := 1) hx hb dL_law_903 (by decide) ?_
  refine lv_iadd hx hb dL_law_904 ?_
  refine va_sld hx hb hX hbl hbA hS (in_s hi (k := 1) (by decide)) dL_law_905 ?_
  obtain ⟨r2, h2, hq, hM1⟩ := CALL_met (l := l) (dC := dC) (dI := dI) (ρ := ρ) (σ := σ) (a := a) pp_X9_ready (Nat.le_of_ble_eq_true rfl) (k_X9_ready h1 hI (xs (i + 1).toNatClampNeg))
  obtain ⟨hI2, fr2, -, z2, rfl, -⟩ := hq
  refine c_L (n := 1) (v := 96) (As := [.inl (xs (i + 1).toNatClampNeg)]) (rest := []) ⟨hx, hb, hml, hown, hT⟩ hK hM hA hP hD hS pp_X9_ready hM1 sh_96 mw_312 mw_313 mw_314 mw_173 (by decide +kernel) rfl ⟨Nat.le_of_ble_eq_true rfl, Nat.le_of_ble_eq_true rfl⟩ hl.1 (Nat.le_of_ble_eq_true rfl) rfl dL_law_906 ⟨Nat.le_of_ble_eq_true rfl, Nat.le_of_ble_eq_true rfl⟩ (fun H locs hP hD hS => ?_)
  have hI := hI2
  show LG p l e s m b below meth c H locs (F0 m 909 ls [.int z2])
  refine lv_pop hx hb dL_law_909 rfl ?_
  refine lv_goto (tgt := 2146) hx hb dL_law_910 (by decide) ?_
  exact hend _ _ _ _ hI (REL_fr fr1 fr2 (by decide) (by decide) hJ) hP hD hS hl
set_option maxRecDepth 100000 in
set_option maxHeartbeats 4000000 in
theorem lc_23 {p : Program} {l : Launch} {e : Env} {s : State} {m : MethodId} {below : List Frame} {meth : Method} {c : Code} {dC : Nat → ClassId} {dI : Nat → Nat → Nat} {b L : Nat} {xs : Nat → Int32} {H : Heap} {locs : List Loc} {ls : Array Slot} {ρ : Nat → Nat} {σ : Nat → Option Nat} {a : Nat → ClassId} {h : PH} {i : Int32} (C0 : lw_At p s m meth c b L xs) (hK : va_K (dC, dI) vwCl (tysP a) s) (hM : AMB σ (fun q : Nat => s.heap.size ≤ q) s s.heap) (hI : INV h) (hJ : REL h) (hP : va_P (dC, dI) vwCl (toW ρ a h) H) (hD : va_D (fun q : Nat => s.heap.size ≤ q) (toW ρ a h)) (hS : va_S (fun q : Nat => s.heap.size ≤ q) s.heap H locs) (hl : lv_has ls 4 [(0, .ref b), (1, .ref (ρ 0)), (2, .ref (ρ 96)), (3, .int i)]) (hi : 0 ≤ i.toInt ∧ i.toInt + 6 ≤ (L : Int) ∧ L ≤ 384) (hend : ∀ (H : Heap) (locs : List Loc) (ls : Array Slot) (h : PH), INV h → REL h → va_P (dC, dI) vwCl (toW ρ a h) H → va_D (fun q : Nat => s.heap.size ≤ q) (toW ρ a h) → va_S (fun q : Nat => s.heap.size ≤ q) s.heap H locs → lv_has ls 4 [(0, .ref b), (1, .ref (ρ 0)), (2, .ref (ρ 96)), (3, .int i)] → LG p l e s m b below meth c H locs (F0 m 2146 ls [])) : LG p l e s m b below meth c H locs (F0 m 913 ls []) := by
  obtain ⟨hx, hb, hr, hml, hown, hts, hX, hbl, hlocks, hgv⟩ := C0
  have hT : ∀ w ∈ TB, w.before #[Value.ref b] s = true := fun w h => hts w (TB_lw h)
  have hown : s.vm.findClass RL = some m.cls := hown
  have hA : ∀ q : Nat, s.heap.size ≤ q → (fun q : Nat => s.heap.size ≤ q) q := fun _ h => h
  have hbA : ¬ (fun q : Nat => s.heap.size ≤ q) b := Nat.not_le.mpr hbl
  refine lv_aload_n hx hb dL_law_913 rfl (lv_at hl 1 rfl) ?_
  obtain ⟨r1, h1, hq, hM1⟩ := CALL_met (l := l) (dC := dC) (dI := dI) (ρ := ρ) (σ := σ) (a := a) pp_X8_crowded (Nat.le_of_ble_eq_true rfl) (k_X8_crowded h hI )
  obtain ⟨hI1, fr1, -, z1, rfl, -⟩ := hq
  refine c_L (n := 0) (v := 0) (As := []) (rest := []) ⟨hx, hb, hml, hown, hT⟩ hK hM hA hP hD hS pp_X8_crowded hM1 sh_0 mw_315 mw_316 mw_317 mw_168 (by decide +kernel) rfl ⟨Nat.le_of_ble_eq_true rfl, Nat.le_of_ble_eq_true rfl⟩ hl.1 (Nat.le_of_ble_eq_true rfl) rfl dL_law_914 ⟨Nat.le_of_ble_eq_true rfl, Nat.le_of_ble_eq_true rfl⟩ (fun H locs hP hD hS => ?_)
  have hI := hI1
  show LG p l e s m b below meth c H locs (F0 m 917 ls [.int z1])
  refine lv_pop hx hb dL_law_917 rfl ?_
  refine lv_aload_n hx hb dL_law_918 rfl (lv_at hl 2 rfl) ?_
  obtain ⟨r2, h2, hq, hM1⟩ := CALL_met (l := l) (dC := dC) (dI := dI) (ρ := ρ) (σ := σ) (a := a) pp_X9_crowded (Nat.le_of_ble_eq_true rfl) (k_X9_crowded h1 hI )
  obtain ⟨hI2, fr2, -, z2, rfl, -⟩ := hq
  refine c_L (n := 0) (v := 96) (As := []) (rest := []) ⟨hx, hb, hml, hown, hT⟩ hK hM hA hP hD hS pp_X9_crowded hM1 sh_96 mw_318 mw_319 mw_320 mw_173 (by decide +kernel) rfl ⟨Nat.le_of_ble_eq_true rfl, Nat.le_of_ble_eq_true rfl⟩ hl.1 (Nat.le_of_ble_eq_true rfl) rfl dL_law_919 ⟨Nat.le_of_ble_eq_true rfl, Nat.le_of_ble_eq_true rfl⟩ (fun H locs hP hD hS => ?_)
  have hI := hI2
  show LG p l e s m b below meth c H locs (F0 m 922 ls [.int z2])
  refine lv_pop hx hb dL_law_922 rfl ?_
  refine lv_goto (tgt := 2146) hx hb dL_law_923 (by decide) ?_
  exact hend _ _ _ _ hI (REL_fr fr1 fr2 (by decide) (by decide) hJ) hP hD hS hl
set_option maxRecDepth 100000 in
set_option maxHeartbeats 4000000 in
theorem lc_24 {p : Program} {l : Launch} {e : Env} {s : State} {m : MethodId} {below : List Frame} {meth : Method} {c : Code} {dC : Nat → ClassId} {dI : Nat → Nat → Nat} {b L : Nat} {xs : Nat → Int32} {H : Heap} {locs : List Loc} {ls : Array Slot} {ρ : Nat → Nat} {σ : Nat → Option Nat} {a : Nat → ClassId} {h : PH} {i : Int32} (C0 : lw_At p s m meth c b L xs) (hK : va_K (dC, dI) vwCl (tysP a) s) (hM : AMB σ (fun q : Nat => s.heap.size ≤ q) s s.heap) (hI : INV h) (hJ : REL h) (hP : va_P (dC, dI) vwCl (toW ρ a h) H) (hD : va_D (fun q : Nat => s.heap.size ≤ q) (toW ρ a h)) (hS : va_S (fun q : Nat => s.heap.size ≤ q) s.heap H locs) (hl : lv_has ls 4 [(0, .ref b), (1, .ref (ρ 0)), (2, .ref (ρ 96)), (3, .int i)]) (hi : 0 ≤ i.toInt ∧ i.toInt + 6 ≤ (L : Int) ∧ L ≤ 384) (hend : ∀ (H : Heap) (locs : List Loc) (ls : Array Slot) (h : PH), INV h → REL h → va_P (dC, dI) vwCl (toW ρ a h) H → va_D (fun q : Nat => s.heap.size ≤ q) (toW ρ a h) → va_S (fun q : Nat => s.heap.size ≤ q) s.heap H locs → lv_has ls 4 [(0, .ref b), (1, .ref (ρ 0)), (2, .ref (ρ 96)), (3, .int i)] → LG p l e s m b below meth c H locs (F0 m 2146 ls [])) : LG p l e s m b below meth c H locs (F0 m 926 ls []) := by
  obtain ⟨hx, hb, hr, hml, hown, hts, hX, hbl, hlocks, hgv⟩ := C0
  have hT : ∀ w ∈ TB, w.before #[Value.ref b] s = true := fun w h => hts w (TB_lw h)
  have hown : s.vm.findClass RL = some m.cls := hown
  have hA : ∀ q : Nat, s.heap.size ≤ q → (fun q : Nat => s.heap.size ≤ q) q := fun _ h => h
  have hbA : ¬ (fun q : Nat => s.heap.size ≤ q) b := Nat.not_le.mpr hbl
  refine lv_aload_n hx hb dL_law_926 rfl (lv_at hl 1 rfl) ?_
  refine lv_aload_n hx hb dL_law_927 rfl (lv_at hl 0 rfl) ?_
  refine lv_iload_n hx hb dL_law_928 rfl (lv_at hl 3 rfl) ?_
  refine lv_iconst (v := 1) hx hb dL_law_929 (by decide) ?_
  refine lv_iadd hx hb dL_law_930 ?_
  refine va_sld hx hb hX hbl hbA hS (in_s hi (k := 1) (by decide)) dL_law_931 ?_
  obtain ⟨r1, h1, hq, hM1⟩ := CALL_met (l := l) (dC := dC) (dI := dI) (ρ := ρ) (σ := σ) (a := a) pp_X8_road (Nat.le_of_ble_eq_true rfl) (k_X8_road h hI (xs (i + 1).toNatClampNeg))
  obtain ⟨hI1, fr1, -, z1, rfl, -⟩ := hq
  refine c_L (n := 1) (v := 0) (As := [.inl (xs (i + 1).toNatClampNeg)]) (rest := []) ⟨hx, hb, hml, hown, hT⟩ hK hM hA hP hD hS pp_X8_road hM1 sh_0 mw_321 mw_322 mw_323 mw_168 (by decide +kernel) rfl ⟨Nat.le_of_ble_eq_true rfl, Nat.le_of_ble_eq_true rfl⟩ hl.1 (Nat.le_of_ble_eq_true rfl) rfl dL_law_932 ⟨Nat.le_of_ble_eq_true rfl, Nat.le_of_ble_eq_true rfl⟩ (fun H locs hP hD hS => ?_)
  have hI := hI1
  show LG p l e s m b below meth c H locs (F0 m 935 ls [.int z1])
  refine lv_pop hx hb dL_law_935 rfl ?_
  refine lv_aload_n hx hb dL_law_936 rfl (lv_at hl 2 rfl) ?_
  refine lv_aload_n hx hb dL_law_937 rfl (lv_at hl 0 rfl) ?_
  refine lv_iload_n hx hb dL_law_938 rfl (lv_at hl 3 rfl) ?_
  refine lv_iconst (v := 1) hx hb dL_law_939 (by decide) ?_
  refine lv_iadd hx hb dL_law_940 ?_
  refine va_sld hx hb hX hbl hbA hS (in_s hi (k := 1) (by decide)) dL_law_941 ?_
  obtain ⟨r2, h2, hq, hM1⟩ := CALL_met (l := l) (dC := dC) (dI := dI) (ρ := ρ) (σ := σ) (a := a) pp_X9_road (Nat.le_of_ble_eq_true rfl) (k_X9_road h1 hI (xs (i + 1).toNatClampNeg))
  obtain ⟨hI2, fr2, -, z2, rfl, -⟩ := hq
  refine c_L (n := 1) (v := 96) (As := [.inl (xs (i + 1).toNatClampNeg)]) (rest := []) ⟨hx, hb, hml, hown, hT⟩ hK hM hA hP hD hS pp_X9_road hM1 sh_96 mw_324 mw_325 mw_326 mw_173 (by decide +kernel) rfl ⟨Nat.le_of_ble_eq_true rfl, Nat.le_of_ble_eq_true rfl⟩ hl.1 (Nat.le_of_ble_eq_true rfl) rfl dL_law_942 ⟨Nat.le_of_ble_eq_true rfl, Nat.le_of_ble_eq_true rfl⟩ (fun H locs hP hD hS => ?_)
  have hI := hI2
  show LG p l e s m b below meth c H locs (F0 m 945 ls [.int z2])
  refine lv_pop hx hb dL_law_945 rfl ?_
  refine lv_goto (tgt := 2146) hx hb dL_law_946 (by decide) ?_
  exact hend _ _ _ _ hI (REL_fr fr1 fr2 (by decide) (by decide) hJ) hP hD hS hl
set_option maxRecDepth 100000 in
set_option maxHeartbeats 4000000 in
theorem lc_25 {p : Program} {l : Launch} {e : Env} {s : State} {m : MethodId} {below : List Frame} {meth : Method} {c : Code} {dC : Nat → ClassId} {dI : Nat → Nat → Nat} {b L : Nat} {xs : Nat → Int32} {H : Heap} {locs : List Loc} {ls : Array Slot} {ρ : Nat → Nat} {σ : Nat → Option Nat} {a : Nat → ClassId} {h : PH} {i : Int32} (C0 : lw_At p s m meth c b L xs) (hK : va_K (dC, dI) vwCl (tysP a) s) (hM : AMB σ (fun q : Nat => s.heap.size ≤ q) s s.heap) (hI : INV h) (hJ : REL h) (hP : va_P (dC, dI) vwCl (toW ρ a h) H) (hD : va_D (fun q : Nat => s.heap.size ≤ q) (toW ρ a h)) (hS : va_S (fun q : Nat => s.heap.size ≤ q) s.heap H locs) (hl : lv_has ls 4 [(0, .ref b), (1, .ref (ρ 0)), (2, .ref (ρ 96)), (3, .int i)]) (hi : 0 ≤ i.toInt ∧ i.toInt + 6 ≤ (L : Int) ∧ L ≤ 384) (hend : ∀ (H : Heap) (locs : List Loc) (ls : Array Slot) (h : PH), INV h → REL h → va_P (dC, dI) vwCl (toW ρ a h) H → va_D (fun q : Nat => s.heap.size ≤ q) (toW ρ a h) → va_S (fun q : Nat => s.heap.size ≤ q) s.heap H locs → lv_has ls 4 [(0, .ref b), (1, .ref (ρ 0)), (2, .ref (ρ 96)), (3, .int i)] → LG p l e s m b below meth c H locs (F0 m 2146 ls [])) : LG p l e s m b below meth c H locs (F0 m 949 ls []) := by
  obtain ⟨hx, hb, hr, hml, hown, hts, hX, hbl, hlocks, hgv⟩ := C0
  have hT : ∀ w ∈ TB, w.before #[Value.ref b] s = true := fun w h => hts w (TB_lw h)
  have hown : s.vm.findClass RL = some m.cls := hown
  have hA : ∀ q : Nat, s.heap.size ≤ q → (fun q : Nat => s.heap.size ≤ q) q := fun _ h => h
  have hbA : ¬ (fun q : Nat => s.heap.size ≤ q) b := Nat.not_le.mpr hbl
  refine lv_aload_n hx hb dL_law_949 rfl (lv_at hl 1 rfl) ?_
  refine lv_aload_n hx hb dL_law_950 rfl (lv_at hl 0 rfl) ?_
  refine lv_iload_n hx hb dL_law_951 rfl (lv_at hl 3 rfl) ?_
  refine lv_iconst (v := 1) hx hb dL_law_952 (by decide) ?_
  refine lv_iadd hx hb dL_law_953 ?_
  refine va_sld hx hb hX hbl hbA hS (in_s hi (k := 1) (by decide)) dL_law_954 ?_
  obtain ⟨r1, h1, hq, hM1⟩ := CALL_met (l := l) (dC := dC) (dI := dI) (ρ := ρ) (σ := σ) (a := a) pp_X8_left (Nat.le_of_ble_eq_true rfl) (k_X8_left h hI (xs (i + 1).toNatClampNeg))
  obtain ⟨hI1, fr1, -, z1, rfl, -⟩ := hq
  refine c_L (n := 1) (v := 0) (As := [.inl (xs (i + 1).toNatClampNeg)]) (rest := []) ⟨hx, hb, hml, hown, hT⟩ hK hM hA hP hD hS pp_X8_left hM1 sh_0 mw_327 mw_328 mw_329 mw_168 (by decide +kernel) rfl ⟨Nat.le_of_ble_eq_true rfl, Nat.le_of_ble_eq_true rfl⟩ hl.1 (Nat.le_of_ble_eq_true rfl) rfl dL_law_955 ⟨Nat.le_of_ble_eq_true rfl, Nat.le_of_ble_eq_true rfl⟩ (fun H locs hP hD hS => ?_)
  have hI := hI1
  show LG p l e s m b below meth c H locs (F0 m 958 ls [.int z1])
  refine lv_pop hx hb dL_law_958 rfl ?_
  refine lv_aload_n hx hb dL_law_959 rfl (lv_at hl 2 rfl) ?_
  refine lv_aload_n hx hb dL_law_960 rfl (lv_at hl 0 rfl) ?_
  refine lv_iload_n hx hb dL_law_961 rfl (lv_at hl 3 rfl) ?_
  refine lv_iconst (v := 1) hx hb dL_law_962 (by decide) ?_
  refine lv_iadd hx hb dL_law_963 ?_
  refine va_sld hx hb hX hbl hbA hS (in_s hi (k := 1) (by decide)) dL_law_964 ?_
  obtain ⟨r2, h2, hq, hM1⟩ := CALL_met (l := l) (dC := dC) (dI := dI) (ρ := ρ) (σ := σ) (a := a) pp_X9_left (Nat.le_of_ble_eq_true rfl) (k_X9_left h1 hI (xs (i + 1).toNatClampNeg))
  obtain ⟨hI2, fr2, -, z2, rfl, -⟩ := hq
  refine c_L (n := 1) (v := 96) (As := [.inl (xs (i + 1).toNatClampNeg)]) (rest := []) ⟨hx, hb, hml, hown, hT⟩ hK hM hA hP hD hS pp_X9_left hM1 sh_96 mw_330 mw_331 mw_332 mw_173 (by decide +kernel) rfl ⟨Nat.le_of_ble_eq_true rfl, Nat.le_of_ble_eq_true rfl⟩ hl.1 (Nat.le_of_ble_eq_true rfl) rfl dL_law_965 ⟨Nat.le_of_ble_eq_true rfl, Nat.le_of_ble_eq_true rfl⟩ (fun H locs hP hD hS => ?_)
  have hI := hI2
  show LG p l e s m b below meth c H locs (F0 m 968 ls [.int z2])
  refine lv_pop hx hb dL_law_968 rfl ?_
  refine lv_goto (tgt := 2146) hx hb dL_law_969 (by decide) ?_
  exact hend _ _ _ _ hI (REL_fr fr1 fr2 (by decide) (by decide) hJ) hP hD hS hl
set_option maxRecDepth 100000 in
set_option maxHeartbeats 4000000 in
theorem lc_26 {p : Program} {l : Launch} {e : Env} {s : State} {m : MethodId} {below : List Frame} {meth : Method} {c : Code} {dC : Nat → ClassId} {dI : Nat → Nat → Nat} {b L : Nat} {xs : Nat → Int32} {H : Heap} {locs : List Loc} {ls : Array Slot} {ρ : Nat → Nat} {σ : Nat → Option Nat} {a : Nat → ClassId} {h : PH} {i : Int32} (C0 : lw_At p s m meth c b L xs) (hK : va_K (dC, dI) vwCl (tysP a) s) (hM : AMB σ (fun q : Nat => s.heap.size ≤ q) s s.heap) (hI : INV h) (hJ : REL h) (hP : va_P (dC, dI) vwCl (toW ρ a h) H) (hD : va_D (fun q : Nat => s.heap.size ≤ q) (toW ρ a h)) (hS : va_S (fun q : Nat => s.heap.size ≤ q) s.heap H locs) (hl : lv_has ls 4 [(0, .ref b), (1, .ref (ρ 0)), (2, .ref (ρ 96)), (3, .int i)]) (hi : 0 ≤ i.toInt ∧ i.toInt + 6 ≤ (L : Int) ∧ L ≤ 384) (hend : ∀ (H : Heap) (locs : List Loc) (ls : Array Slot) (h : PH), INV h → REL h → va_P (dC, dI) vwCl (toW ρ a h) H → va_D (fun q : Nat => s.heap.size ≤ q) (toW ρ a h) → va_S (fun q : Nat => s.heap.size ≤ q) s.heap H locs → lv_has ls 4 [(0, .ref b), (1, .ref (ρ 0)), (2, .ref (ρ 96)), (3, .int i)] → LG p l e s m b below meth c H locs (F0 m 2146 ls [])) : LG p l e s m b below meth c H locs (F0 m 972 ls []) := by
  obtain ⟨hx, hb, hr, hml, hown, hts, hX, hbl, hlocks, hgv⟩ := C0
  have hT : ∀ w ∈ TB, w.before #[Value.ref b] s = true := fun w h => hts w (TB_lw h)
  have hown : s.vm.findClass RL = some m.cls := hown
  have hA : ∀ q : Nat, s.heap.size ≤ q → (fun q : Nat => s.heap.size ≤ q) q := fun _ h => h
  have hbA : ¬ (fun q : Nat => s.heap.size ≤ q) b := Nat.not_le.mpr hbl
  refine lv_aload_n hx hb dL_law_972 rfl (lv_at hl 1 rfl) ?_
  obtain ⟨r1, h1, hq, hM1⟩ := CALL_met (l := l) (dC := dC) (dI := dI) (ρ := ρ) (σ := σ) (a := a) pp_X8_full (Nat.le_of_ble_eq_true rfl) (k_X8_full h hI )
  obtain ⟨hI1, fr1, -, z1, rfl, -⟩ := hq
  refine c_L (n := 0) (v := 0) (As := []) (rest := []) ⟨hx, hb, hml, hown, hT⟩ hK hM hA hP hD hS pp_X8_full hM1 sh_0 mw_333 mw_334 mw_335 mw_168 (by decide +kernel) rfl ⟨Nat.le_of_ble_eq_true rfl, Nat.le_of_ble_eq_true rfl⟩ hl.1 (Nat.le_of_ble_eq_true rfl) rfl dL_law_973 ⟨Nat.le_of_ble_eq_true rfl, Nat.le_of_ble_eq_true rfl⟩ (fun H locs hP hD hS => ?_)
  have hI := hI1
  show LG p l e s m b below meth c H locs (F0 m 976 ls [.int z1])
  refine lv_pop hx hb dL_law_976 rfl ?_
  refine lv_aload_n hx hb dL_law_977 rfl (lv_at hl 2 rfl) ?_
  obtain ⟨r2, h2, hq, hM1⟩ := CALL_met (l := l) (dC := dC) (dI := dI) (ρ := ρ) (σ := σ) (a := a) pp_X9_full (Nat.le_of_ble_eq_true rfl) (k_X9_full h1 hI )
  obtain ⟨hI2, fr2, -, z2, rfl, -⟩ := hq
  refine c_L (n := 0) (v := 96) (As := []) (rest := []) ⟨hx, hb, hml, hown, hT⟩ hK hM hA hP hD hS pp_X9_full hM1 sh_96 mw_336 mw_337 mw_338 mw_173 (by decide +kernel) rfl ⟨Nat.le_of_ble_eq_true rfl, Nat.le_of_ble_eq_true rfl⟩ hl.1 (Nat.le_of_ble_eq_true rfl) rfl dL_law_978 ⟨Nat.le_of_ble_eq_true rfl, Nat.le_of_ble_eq_true rfl⟩ (fun H locs hP hD hS => ?_)
  have hI := hI2
  show LG p l e s m b below meth c H locs (F0 m 981 ls [.int z2])
  refine lv_pop hx hb dL_law_981 rfl ?_
  refine lv_goto (tgt := 2146) hx hb dL_law_982 (by decide) ?_
  exact hend _ _ _ _ hI (REL_fr fr1 fr2 (by decide) (by decide) hJ) hP hD hS hl
set_option maxRecDepth 100000 in
set_option maxHeartbeats 4000000 in
theorem lc_27 {p : Program} {l : Launch} {e : Env} {s : State} {m : MethodId} {below : List Frame} {meth : Method} {c : Code} {dC : Nat → ClassId} {dI : Nat → Nat → Nat} {b L : Nat} {xs : Nat → Int32} {H : Heap} {locs : List Loc} {ls : Array Slot} {ρ : Nat → Nat} {σ : Nat → Option Nat} {a : Nat → ClassId} {h : PH} {i : Int32} (C0 : lw_At p s m meth c b L xs) (hK : va_K (dC, dI) vwCl (tysP a) s) (hM : AMB σ (fun q : Nat => s.heap.size ≤ q) s s.heap) (hI : INV h) (hJ : REL h) (hP : va_P (dC, dI) vwCl (toW ρ a h) H) (hD : va_D (fun q : Nat => s.heap.size ≤ q) (toW ρ a h)) (hS : va_S (fun q : Nat => s.heap.size ≤ q) s.heap H locs) (hl : lv_has ls 4 [(0, .ref b), (1, .ref (ρ 0)), (2, .ref (ρ 96)), (3, .int i)]) (hi : 0 ≤ i.toInt ∧ i.toInt + 6 ≤ (L : Int) ∧ L ≤ 384) (hend : ∀ (H : Heap) (locs : List Loc) (ls : Array Slot) (h : PH), INV h → REL h → va_P (dC, dI) vwCl (toW ρ a h) H → va_D (fun q : Nat => s.heap.size ≤ q) (toW ρ a h) → va_S (fun q : Nat => s.heap.size ≤ q) s.heap H locs → lv_has ls 4 [(0, .ref b), (1, .ref (ρ 0)), (2, .ref (ρ 96)), (3, .int i)] → LG p l e s m b below meth c H locs (F0 m 2146 ls [])) : LG p l e s m b below meth c H locs (F0 m 985 ls []) := by
  obtain ⟨hx, hb, hr, hml, hown, hts, hX, hbl, hlocks, hgv⟩ := C0
  have hT : ∀ w ∈ TB, w.before #[Value.ref b] s = true := fun w h => hts w (TB_lw h)
  have hown : s.vm.findClass RL = some m.cls := hown
  have hA : ∀ q : Nat, s.heap.size ≤ q → (fun q : Nat => s.heap.size ≤ q) q := fun _ h => h
  have hbA : ¬ (fun q : Nat => s.heap.size ≤ q) b := Nat.not_le.mpr hbl
  refine lv_aload_n hx hb dL_law_985 rfl (lv_at hl 1 rfl) ?_
  refine lv_aload_n hx hb dL_law_986 rfl (lv_at hl 0 rfl) ?_
  refine lv_iload_n hx hb dL_law_987 rfl (lv_at hl 3 rfl) ?_
  refine lv_iconst (v := 1) hx hb dL_law_988 (by decide) ?_
  refine lv_iadd hx hb dL_law_989 ?_
  refine va_sld hx hb hX hbl hbA hS (in_s hi (k := 1) (by decide)) dL_law_990 ?_
  obtain ⟨r1, h1, hq, hM1⟩ := CALL_met (l := l) (dC := dC) (dI := dI) (ρ := ρ) (σ := σ) (a := a) pp_X8_starts (Nat.le_of_ble_eq_true rfl) (k_X8_starts h hI (xs (i + 1).toNatClampNeg))
  obtain ⟨hI1, fr1, -, z1, rfl, -⟩ := hq
  refine c_L (n := 1) (v := 0) (As := [.inl (xs (i + 1).toNatClampNeg)]) (rest := []) ⟨hx, hb, hml, hown, hT⟩ hK hM hA hP hD hS pp_X8_starts hM1 sh_0 mw_339 mw_340 mw_341 mw_168 (by decide +kernel) rfl ⟨Nat.le_of_ble_eq_true rfl, Nat.le_of_ble_eq_true rfl⟩ hl.1 (Nat.le_of_ble_eq_true rfl) rfl dL_law_991 ⟨Nat.le_of_ble_eq_true rfl, Nat.le_of_ble_eq_true rfl⟩ (fun H locs hP hD hS => ?_)
  have hI := hI1
  show LG p l e s m b below meth c H locs (F0 m 994 ls [.int z1])
  refine lv_pop hx hb dL_law_994 rfl ?_
  refine lv_aload_n hx hb dL_law_995 rfl (lv_at hl 2 rfl) ?_
  refine lv_aload_n hx hb dL_law_996 rfl (lv_at hl 0 rfl) ?_
  refine lv_iload_n hx hb dL_law_997 rfl (lv_at hl 3 rfl) ?_
  refine lv_iconst (v := 1) hx hb dL_law_998 (by decide) ?_
  refine lv_iadd hx hb dL_law_999 ?_
  refine va_sld hx hb hX hbl hbA hS (in_s hi (k := 1) (by decide)) dL_law_1000 ?_
  obtain ⟨r2, h2, hq, hM1⟩ := CALL_met (l := l) (dC := dC) (dI := dI) (ρ := ρ) (σ := σ) (a := a) pp_X9_starts (Nat.le_of_ble_eq_true rfl) (k_X9_starts h1 hI (xs (i + 1).toNatClampNeg))
  obtain ⟨hI2, fr2, -, z2, rfl, -⟩ := hq
  refine c_L (n := 1) (v := 96) (As := [.inl (xs (i + 1).toNatClampNeg)]) (rest := []) ⟨hx, hb, hml, hown, hT⟩ hK hM hA hP hD hS pp_X9_starts hM1 sh_96 mw_342 mw_343 mw_344 mw_173 (by decide +kernel) rfl ⟨Nat.le_of_ble_eq_true rfl, Nat.le_of_ble_eq_true rfl⟩ hl.1 (Nat.le_of_ble_eq_true rfl) rfl dL_law_1001 ⟨Nat.le_of_ble_eq_true rfl, Nat.le_of_ble_eq_true rfl⟩ (fun H locs hP hD hS => ?_)
  have hI := hI2
  show LG p l e s m b below meth c H locs (F0 m 1004 ls [.int z2])
  refine lv_pop hx hb dL_law_1004 rfl ?_
  refine lv_goto (tgt := 2146) hx hb dL_law_1005 (by decide) ?_
  exact hend _ _ _ _ hI (REL_fr fr1 fr2 (by decide) (by decide) hJ) hP hD hS hl
set_option maxRecDepth 100000 in
set_option maxHeartbeats 4000000 in
theorem lc_28 {p : Program} {l : Launch} {e : Env} {s : State} {m : MethodId} {below : List Frame} {meth : Method} {c : Code} {dC : Nat → ClassId} {dI : Nat → Nat → Nat} {b L : Nat} {xs : Nat → Int32} {H : Heap} {locs : List Loc} {ls : Array Slot} {ρ : Nat → Nat} {σ : Nat → Option Nat} {a : Nat → ClassId} {h : PH} {i : Int32} (C0 : lw_At p s m meth c b L xs) (hK : va_K (dC, dI) vwCl (tysP a) s) (hM : AMB σ (fun q : Nat => s.heap.size ≤ q) s s.heap) (hI : INV h) (hJ : REL h) (hP : va_P (dC, dI) vwCl (toW ρ a h) H) (hD : va_D (fun q : Nat => s.heap.size ≤ q) (toW ρ a h)) (hS : va_S (fun q : Nat => s.heap.size ≤ q) s.heap H locs) (hl : lv_has ls 4 [(0, .ref b), (1, .ref (ρ 0)), (2, .ref (ρ 96)), (3, .int i)]) (hi : 0 ≤ i.toInt ∧ i.toInt + 6 ≤ (L : Int) ∧ L ≤ 384) (hend : ∀ (H : Heap) (locs : List Loc) (ls : Array Slot) (h : PH), INV h → REL h → va_P (dC, dI) vwCl (toW ρ a h) H → va_D (fun q : Nat => s.heap.size ≤ q) (toW ρ a h) → va_S (fun q : Nat => s.heap.size ≤ q) s.heap H locs → lv_has ls 4 [(0, .ref b), (1, .ref (ρ 0)), (2, .ref (ρ 96)), (3, .int i)] → LG p l e s m b below meth c H locs (F0 m 2146 ls [])) : LG p l e s m b below meth c H locs (F0 m 1008 ls []) := by
  obtain ⟨hx, hb, hr, hml, hown, hts, hX, hbl, hlocks, hgv⟩ := C0
  have hT : ∀ w ∈ TB, w.before #[Value.ref b] s = true := fun w h => hts w (TB_lw h)
  have hown : s.vm.findClass RL = some m.cls := hown
  have hA : ∀ q : Nat, s.heap.size ≤ q → (fun q : Nat => s.heap.size ≤ q) q := fun _ h => h
  have hbA : ¬ (fun q : Nat => s.heap.size ≤ q) b := Nat.not_le.mpr hbl
  refine lv_aload_n hx hb dL_law_1008 rfl (lv_at hl 1 rfl) ?_
  refine lv_aload_n hx hb dL_law_1009 rfl (lv_at hl 0 rfl) ?_
  refine lv_iload_n hx hb dL_law_1010 rfl (lv_at hl 3 rfl) ?_
  refine lv_iconst (v := 1) hx hb dL_law_1011 (by decide) ?_
  refine lv_iadd hx hb dL_law_1012 ?_
  refine va_sld hx hb hX hbl hbA hS (in_s hi (k := 1) (by decide)) dL_law_1013 ?_
  obtain ⟨r1, h1, hq, hM1⟩ := CALL_met (l := l) (dC := dC) (dI := dI) (ρ := ρ) (σ := σ) (a := a) pp_X8_passes (Nat.le_of_ble_eq_true rfl) (k_X8_passes h hI (xs (i + 1).toNatClampNeg))
  obtain ⟨hI1, fr1, -, z1, rfl, -⟩ := hq
  refine c_L (n := 1) (v := 0) (As := [.inl (xs (i + 1).toNatClampNeg)]) (rest := []) ⟨hx, hb, hml, hown, hT⟩ hK hM hA hP hD hS pp_X8_passes hM1 sh_0 mw_345 mw_346 mw_347 mw_168 (by decide +kernel) rfl ⟨Nat.le_of_ble_eq_true rfl, Nat.le_of_ble_eq_true rfl⟩ hl.1 (Nat.le_of_ble_eq_true rfl) rfl dL_law_1014 ⟨Nat.le_of_ble_eq_true rfl, Nat.le_of_ble_eq_true rfl⟩ (fun H locs hP hD hS => ?_)
  have hI := hI1
  show LG p l e s m b below meth c H locs (F0 m 1017 ls [.int z1])
  refine lv_pop hx hb dL_law_1017 rfl ?_
  refine lv_aload_n hx hb dL_law_1018 rfl (lv_at hl 2 rfl) ?_
  refine lv_aload_n hx hb dL_law_1019 rfl (lv_at hl 0 rfl) ?_
  refine lv_iload_n hx hb dL_law_1020 rfl (lv_at hl 3 rfl) ?_
  refine lv_iconst (v := 1) hx hb dL_law_1021 (by decide) ?_
  refine lv_iadd hx hb dL_law_1022 ?_
  refine va_sld hx hb hX hbl hbA hS (in_s hi (k := 1) (by decide)) dL_law_1023 ?_
  obtain ⟨r2, h2, hq, hM1⟩ := CALL_met (l := l) (dC := dC) (dI := dI) (ρ := ρ) (σ := σ) (a := a) pp_X9_passes (Nat.le_of_ble_eq_true rfl) (k_X9_passes h1 hI (xs (i + 1).toNatClampNeg))
  obtain ⟨hI2, fr2, -, z2, rfl, -⟩ := hq
  refine c_L (n := 1) (v := 96) (As := [.inl (xs (i + 1).toNatClampNeg)]) (rest := []) ⟨hx, hb, hml, hown, hT⟩ hK hM hA hP hD hS pp_X9_passes hM1 sh_96 mw_348 mw_349 mw_350 mw_173 (by decide +kernel) rfl ⟨Nat.le_of_ble_eq_true rfl, Nat.le_of_ble_eq_true rfl⟩ hl.1 (Nat.le_of_ble_eq_true rfl) rfl dL_law_1024 ⟨Nat.le_of_ble_eq_true rfl, Nat.le_of_ble_eq_true rfl⟩ (fun H locs hP hD hS => ?_)
  have hI := hI2
  show LG p l e s m b below meth c H locs (F0 m 1027 ls [.int z2])
  refine lv_pop hx hb dL_law_1027 rfl ?_
  refine lv_goto (tgt := 2146) hx hb dL_law_1028 (by decide) ?_
  exact hend _ _ _ _ hI (REL_fr fr1 fr2 (by decide) (by decide) hJ) hP hD hS hl
set_option maxRecDepth 100000 in
set_option maxHeartbeats 4000000 in
theorem lc_29 {p : Program} {l : Launch} {e : Env} {s : State} {m : MethodId} {below : List Frame} {meth : Method} {c : Code} {dC : Nat → ClassId} {dI : Nat → Nat → Nat} {b L : Nat} {xs : Nat → Int32} {H : Heap} {locs : List Loc} {ls : Array Slot} {ρ : Nat → Nat} {σ : Nat → Option Nat} {a : Nat → ClassId} {h : PH} {i : Int32} (C0 : lw_At p s m meth c b L xs) (hK : va_K (dC, dI) vwCl (tysP a) s) (hM : AMB σ (fun q : Nat => s.heap.size ≤ q) s s.heap) (hI : INV h) (hJ : REL h) (hP : va_P (dC, dI) vwCl (toW ρ a h) H) (hD : va_D (fun q : Nat => s.heap.size ≤ q) (toW ρ a h)) (hS : va_S (fun q : Nat => s.heap.size ≤ q) s.heap H locs) (hl : lv_has ls 4 [(0, .ref b), (1, .ref (ρ 0)), (2, .ref (ρ 96)), (3, .int i)]) (hi : 0 ≤ i.toInt ∧ i.toInt + 6 ≤ (L : Int) ∧ L ≤ 384) (hend : ∀ (H : Heap) (locs : List Loc) (ls : Array Slot) (h : PH), INV h → REL h → va_P (dC, dI) vwCl (toW ρ a h) H → va_D (fun q : Nat => s.heap.size ≤ q) (toW ρ a h) → va_S (fun q : Nat => s.heap.size ≤ q) s.heap H locs → lv_has ls 4 [(0, .ref b), (1, .ref (ρ 0)), (2, .ref (ρ 96)), (3, .int i)] → LG p l e s m b below meth c H locs (F0 m 2146 ls [])) : LG p l e s m b below meth c H locs (F0 m 1031 ls []) := by
  obtain ⟨hx, hb, hr, hml, hown, hts, hX, hbl, hlocks, hgv⟩ := C0
  have hT : ∀ w ∈ TB, w.before #[Value.ref b] s = true := fun w h => hts w (TB_lw h)
  have hown : s.vm.findClass RL = some m.cls := hown
  have hA : ∀ q : Nat, s.heap.size ≤ q → (fun q : Nat => s.heap.size ≤ q) q := fun _ h => h
  have hbA : ¬ (fun q : Nat => s.heap.size ≤ q) b := Nat.not_le.mpr hbl
  refine lv_aload_n hx hb dL_law_1031 rfl (lv_at hl 1 rfl) ?_
  refine lv_aload_n hx hb dL_law_1032 rfl (lv_at hl 0 rfl) ?_
  refine lv_iload_n hx hb dL_law_1033 rfl (lv_at hl 3 rfl) ?_
  refine lv_iconst (v := 1) hx hb dL_law_1034 (by decide) ?_
  refine lv_iadd hx hb dL_law_1035 ?_
  refine va_sld hx hb hX hbl hbA hS (in_s hi (k := 1) (by decide)) dL_law_1036 ?_
  obtain ⟨r1, h1, hq, hM1⟩ := CALL_met (l := l) (dC := dC) (dI := dI) (ρ := ρ) (σ := σ) (a := a) pp_X8_loses (Nat.le_of_ble_eq_true rfl) (k_X8_loses h hI (xs (i + 1).toNatClampNeg))
  obtain ⟨hI1, fr1, -, z1, rfl, -⟩ := hq
  refine c_L (n := 1) (v := 0) (As := [.inl (xs (i + 1).toNatClampNeg)]) (rest := []) ⟨hx, hb, hml, hown, hT⟩ hK hM hA hP hD hS pp_X8_loses hM1 sh_0 mw_351 mw_352 mw_353 mw_168 (by decide +kernel) rfl ⟨Nat.le_of_ble_eq_true rfl, Nat.le_of_ble_eq_true rfl⟩ hl.1 (Nat.le_of_ble_eq_true rfl) rfl dL_law_1037 ⟨Nat.le_of_ble_eq_true rfl, Nat.le_of_ble_eq_true rfl⟩ (fun H locs hP hD hS => ?_)
  have hI := hI1
  show LG p l e s m b below meth c H locs (F0 m 1040 ls [.int z1])
  refine lv_pop hx hb dL_law_1040 rfl ?_
  refine lv_aload_n hx hb dL_law_1041 rfl (lv_at hl 2 rfl) ?_
  refine lv_aload_n hx hb dL_law_1042 rfl (lv_at hl 0 rfl) ?_
  refine lv_iload_n hx hb dL_law_1043 rfl (lv_at hl 3 rfl) ?_
  refine lv_iconst (v := 1) hx hb dL_law_1044 (by decide) ?_
  refine lv_iadd hx hb dL_law_1045 ?_
  refine va_sld hx hb hX hbl hbA hS (in_s hi (k := 1) (by decide)) dL_law_1046 ?_
  obtain ⟨r2, h2, hq, hM1⟩ := CALL_met (l := l) (dC := dC) (dI := dI) (ρ := ρ) (σ := σ) (a := a) pp_X9_loses (Nat.le_of_ble_eq_true rfl) (k_X9_loses h1 hI (xs (i + 1).toNatClampNeg))
  obtain ⟨hI2, fr2, -, z2, rfl, -⟩ := hq
  refine c_L (n := 1) (v := 96) (As := [.inl (xs (i + 1).toNatClampNeg)]) (rest := []) ⟨hx, hb, hml, hown, hT⟩ hK hM hA hP hD hS pp_X9_loses hM1 sh_96 mw_354 mw_355 mw_356 mw_173 (by decide +kernel) rfl ⟨Nat.le_of_ble_eq_true rfl, Nat.le_of_ble_eq_true rfl⟩ hl.1 (Nat.le_of_ble_eq_true rfl) rfl dL_law_1047 ⟨Nat.le_of_ble_eq_true rfl, Nat.le_of_ble_eq_true rfl⟩ (fun H locs hP hD hS => ?_)
  have hI := hI2
  show LG p l e s m b below meth c H locs (F0 m 1050 ls [.int z2])
  refine lv_pop hx hb dL_law_1050 rfl ?_
  refine lv_goto (tgt := 2146) hx hb dL_law_1051 (by decide) ?_
  exact hend _ _ _ _ hI (REL_fr fr1 fr2 (by decide) (by decide) hJ) hP hD hS hl
