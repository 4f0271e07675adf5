set_option maxRecDepth 100000 in
set_option maxHeartbeats 4000000 in
theorem k_X8_pair (l : Launch) (dC : Nat → ClassId) (dI : Nat → Nat → Nat) (g : Nat → Nat) (a : Nat → ClassId) (p0 : Int32) (p1 : Int32)  : MI l dC dI yX8_pair (Cond.code yX8_pair cX8_pair 3 (some .int)) ({ frames := 1, cells := 0, slots := 0, locals := 21 }) [.ref (g 0), .int p0, .int p1] [((a 17), .int)] [((g 0), .inr (8, [.ref (g 1), .ref (g 2), .ref (g 4), .ref (g 16), .ref (g 64), .ref (g 65), .ref (g 66), .ref (g 70), .ref (g 75), .ref (g 87), .ref (g 94), .int 0, .int 0, .int 0])), ((g 16), .inr (1, [.ref (g 17), .ref (g 18), .ref (g 19), .ref (g 20), .ref (g 21), .ref (g 22), .ref (g 23), .ref (g 24), .ref (g 25), .ref (g 26), .ref (g 27)])), ((g 17), .inl ((a 17), 11, .inl (fun _ => 0)))] (fun r : Int32 => r = (-2)) (fun f => []) := by
  refine m_of (Qc := fun A => QI dC dI A (fun r : Int32 => r = (-2)) (fun f => [])) (lv := [(0, .ref (g 0)), (1, .int p0), (2, .int p1)]) (by decide) (Nat.le_of_ble_eq_true rfl) rfl ?_
  intro p e s m below meth c A ls hx hb hr hml hT hown hlocks hname hP hK hD hS hA hl
  have hown : s.vm.findClass RX8 = some m.cls := hown
  refine lv_aload_n hx hb dX8_pair_0 rfl (lv_at hl 0 rfl) ?_
  refine va_get (D := (dC, dI)) (ci := 8) (v := .ref (g 16)) (C := RX8) (T := TX8) (N := 14) hx hb hT inT8 hown hK hP 0 rfl rfl 3 (by decide) (hT _ mw_45) (fun _ h9 => h9) rfl dX8_pair_1 ?_
  refine lv_iload_n hx hb dX8_pair_4 rfl (lv_at hl 1 rfl) ?_
  refine c_Vi (C := RX1) (As := [.int p0]) (rest := []) (wr := [((g 0), .inr (8, [.ref (g 1), .ref (g 2), .ref (g 4), .ref (g 16), .ref (g 64), .ref (g 65), .ref (g 66), .ref (g 70), .ref (g 75), .ref (g 87), .ref (g 94), .int 0, .int 0, .int 0]))]) (n := 1) ⟨hx, hb, hml, hown, hT⟩ (k_X1_hasPair l dC dI g a p0) hK hP hD hS hA [0] rfl [1, 2] [0] rfl rfl rfl rfl (by decide) rfl rfl mw_122 mw_123 mw_124 mw_27 mw_125 (by decide +kernel) ⟨Nat.le_of_ble_eq_true rfl, Nat.le_of_ble_eq_true rfl⟩ ⟨rfl, rfl⟩ rfl hl.1 (Nat.le_of_ble_eq_true rfl) rfl dX8_pair_5 ⟨Nat.zero_le _, Nat.zero_le _⟩ (fun r f1 H locs er hP hD hS => ?_)
  have hP : va_P (dC, dI) vwCl [((g 0), .inr (8, [.ref (g 1), .ref (g 2), .ref (g 4), .ref (g 16), .ref (g 64), .ref (g 65), .ref (g 66), .ref (g 70), .ref (g 75), .ref (g 87), .ref (g 94), .int 0, .int 0, .int 0])), ((g 16), .inr (1, [.ref (g 17), .ref (g 18), .ref (g 19), .ref (g 20), .ref (g 21), .ref (g 22), .ref (g 23), .ref (g 24), .ref (g 25), .ref (g 26), .ref (g 27)])), ((g 17), .inl ((a 17), 11, .inl (fun _ => 0)))] H := hP
  have hD : va_D A [((g 0), .inr (8, [.ref (g 1), .ref (g 2), .ref (g 4), .ref (g 16), .ref (g 64), .ref (g 65), .ref (g 66), .ref (g 70), .ref (g 75), .ref (g 87), .ref (g 94), .int 0, .int 0, .int 0])), ((g 16), .inr (1, [.ref (g 17), .ref (g 18), .ref (g 19), .ref (g 20), .ref (g 21), .ref (g 22), .ref (g 23), .ref (g 24), .ref (g 25), .ref (g 26), .ref (g 27)])), ((g 17), .inl ((a 17), 11, .inl (fun _ => 0)))] := hD
  have er : r = 0 := er
  subst er
  refine lv_if_eq (tgt := 20) hx hb dX8_pair_8 (by decide) (fun c2 => ?_) (fun c2 => ?_)
  · refine lv_bipush (v := (-2)) hx hb dX8_pair_20 (by decide) ?_
    exact e_i hx hb hr hlocks hP hD hS (fun _ => 0) [] rfl rfl rfl dX8_pair_22
  · exact absurd c2 (by decide)
set_option maxRecDepth 100000 in
set_option maxHeartbeats 4000000 in
theorem k_X9_pair (l : Launch) (dC : Nat → ClassId) (dI : Nat → Nat → Nat) (g : Nat → Nat) (a : Nat → ClassId) (p0 : Int32) (p1 : Int32)  : MI l dC dI yX9_pair (Cond.code yX9_pair cX9_pair 3 (some .int)) ({ frames := 1, cells := 0, slots := 0, locals := 25 }) [.ref (g 0), .int p0, .int p1] [((a 1), .int)] [((g 0), .inr (9, oM g 0 0 0 0 0 0 (-1))), ((g 1), .inl ((a 1), 68, .inl (fun _ => 0)))] (fun r : Int32 => r = (-2)) (fun f => []) := by
  refine m_of (Qc := fun A => QI dC dI A (fun r : Int32 => r = (-2)) (fun f => [])) (lv := [(0, .ref (g 0)), (1, .int p0), (2, .int p1)]) (by decide) (Nat.le_of_ble_eq_true rfl) rfl ?_
  intro p e s m below meth c A ls hx hb hr hml hT hown hlocks hname hP hK hD hS hA hl
  have hown : s.vm.findClass RX9 = some m.cls := hown
  refine lv_iload_n hx hb dX9_pair_0 rfl (lv_at hl 1 rfl) ?_
  refine lv_i2l (v := p0.toInt64) hx hb dX9_pair_1 rfl ?_
  refine lv_lconst (v := 0) hx hb dX9_pair_2 (by decide) ?_
  refine lv_aload_n hx hb dX9_pair_3 rfl (lv_at hl 0 rfl) ?_
  refine va_get (D := (dC, dI)) (ci := 9) (v := .ref (g 1)) (C := RX9) (T := TX9) (N := 61) hx hb hT inT9 hown hK hP 0 rfl rfl 1 (by decide) (hT _ mw_95) (fun _ h9 => h9) rfl dX9_pair_4 ?_
  refine lv_bipush (v := 6) hx hb dX9_pair_7 (by decide) ?_
  refine va_iald hx hb hK hP 1 0 rfl rfl (by unfold vp_in; decide) dX9_pair_9 ?_
  refine t_i 0 rfl ?_
  refine lv_iconst (v := 1) hx hb dX9_pair_10 (by decide) ?_
  refine lv_isub hx hb dX9_pair_11 ?_
  refine t_i (-1) (by decide) ?_
  refine lv_i2l (v := (-1)) hx hb dX9_pair_12 (by decide) ?_
  refine c_Si (As := [.long p0.toInt64, .long 0, .long (-1)]) (rest := []) (wr := [((g 0), .inr (9, oM g 0 0 0 0 0 0 (-1))), ((g 1), .inl ((a 1), 68, .inl (fun _ => 0)))]) (n := 3) ⟨hx, hb, hml, hown, hT⟩ (k_X9_in l dC dI g a p0.toInt64 0 (-1) p0.toInt 0 (-1) (Int32.toInt_toInt64 _) (by decide) (by decide)) hK hP hD hS hA [] rfl [] [0, 1] rfl rfl rfl rfl (by decide) mw_17 mw_18 mw_19 mw_20 (by decide +kernel) ⟨Nat.le_of_ble_eq_true rfl, Nat.le_of_ble_eq_true rfl⟩ ⟨rfl, rfl⟩ rfl hl.1 (Nat.le_of_ble_eq_true rfl) rfl dX9_pair_13 ⟨Nat.zero_le _, Nat.zero_le _⟩ (fun r f1 H locs er hP hD hS => ?_)
  have hP : va_P (dC, dI) vwCl [((g 0), .inr (9, oM g 0 0 0 0 0 0 (-1))), ((g 1), .inl ((a 1), 68, .inl (fun _ => 0)))] H := hP
  have hD : va_D A [((g 0), .inr (9, oM g 0 0 0 0 0 0 (-1))), ((g 1), .inl ((a 1), 68, .inl (fun _ => 0)))] := hD
  by_cases hc : (0 : Int) ≤ p0.toInt ∧ p0.toInt ≤ (-1 : Int)
  · omega
  · have er : r = 0 := er.trans (if_neg hc)
    subst er
    refine lv_if_eq (tgt := 47) hx hb dX9_pair_16 (by decide) (fun c2 => ?_) (fun c2 => ?_)
    · refine lv_bipush (v := (-2)) hx hb dX9_pair_47 (by decide) ?_
      exact e_i hx hb hr hlocks hP hD hS (fun _ => 0) [] rfl rfl rfl dX9_pair_49
    · exact absurd c2 (by decide)
set_option maxRecDepth 100000 in
set_option maxHeartbeats 4000000 in
theorem k_X8_keeps (l : Launch) (dC : Nat → ClassId) (dI : Nat → Nat → Nat) (g : Nat → Nat) (a : Nat → ClassId) (p0 : Int32)  : MI l dC dI yX8_keeps (Cond.code yX8_keeps cX8_keeps 2 (some .int)) ({ frames := 1, cells := 0, slots := 0, locals := 21 }) [.ref (g 0), .int p0] [((a 17), .int)] [((g 0), .inr (8, [.ref (g 1), .ref (g 2), .ref (g 4), .ref (g 16), .ref (g 64), .ref (g 65), .ref (g 66), .ref (g 70), .ref (g 75), .ref (g 87), .ref (g 94), .int 0, .int 0, .int 0])), ((g 16), .inr (1, [.ref (g 17), .ref (g 18), .ref (g 19), .ref (g 20), .ref (g 21), .ref (g 22), .ref (g 23), .ref (g 24), .ref (g 25), .ref (g 26), .ref (g 27)])), ((g 17), .inl ((a 17), 11, .inl (fun _ => 0)))] (fun r : Int32 => r = (-2)) (fun f => []) := by
  refine m_of (Qc := fun A => QI dC dI A (fun r : Int32 => r = (-2)) (fun f => [])) (lv := [(0, .ref (g 0)), (1, .int p0)]) (by decide) (Nat.le_of_ble_eq_true rfl) rfl ?_
  intro p e s m below meth c A ls hx hb hr hml hT hown hlocks hname hP hK hD hS hA hl
  have hown : s.vm.findClass RX8 = some m.cls := hown
  refine lv_aload_n hx hb dX8_keeps_0 rfl (lv_at hl 0 rfl) ?_
  refine va_get (D := (dC, dI)) (ci := 8) (v := .ref (g 16)) (C := RX8) (T := TX8) (N := 14) hx hb hT inT8 hown hK hP 0 rfl rfl 3 (by decide) (hT _ mw_45) (fun _ h9 => h9) rfl dX8_keeps_1 ?_
  refine lv_iload_n hx hb dX8_keeps_4 rfl (lv_at hl 1 rfl) ?_
  refine c_Vi (C := RX1) (As := [.int p0]) (rest := []) (wr := [((g 0), .inr (8, [.ref (g 1), .ref (g 2), .ref (g 4), .ref (g 16), .ref (g 64), .ref (g 65), .ref (g 66), .ref (g 70), .ref (g 75), .ref (g 87), .ref (g 94), .int 0, .int 0, .int 0]))]) (n := 1) ⟨hx, hb, hml, hown, hT⟩ (k_X1_hasPair l dC dI g a p0) hK hP hD hS hA [0] rfl [1, 2] [0] rfl rfl rfl rfl (by decide) rfl rfl mw_122 mw_123 mw_124 mw_27 mw_125 (by decide +kernel) ⟨Nat.le_of_ble_eq_true rfl, Nat.le_of_ble_eq_true rfl⟩ ⟨rfl, rfl⟩ rfl hl.1 (Nat.le_of_ble_eq_true rfl) rfl dX8_keeps_5 ⟨Nat.zero_le _, Nat.zero_le _⟩ (fun r f1 H locs er hP hD hS => ?_)
  have hP : va_P (dC, dI) vwCl [((g 0), .inr (8, [.ref (g 1), .ref (g 2), .ref (g 4), .ref (g 16), .ref (g 64), .ref (g 65), .ref (g 66), .ref (g 70), .ref (g 75), .ref (g 87), .ref (g 94), .int 0, .int 0, .int 0])), ((g 16), .inr (1, [.ref (g 17), .ref (g 18), .ref (g 19), .ref (g 20), .ref (g 21), .ref (g 22), .ref (g 23), .ref (g 24), .ref (g 25), .ref (g 26), .ref (g 27)])), ((g 17), .inl ((a 17), 11, .inl (fun _ => 0)))] H := hP
  have hD : va_D A [((g 0), .inr (8, [.ref (g 1), .ref (g 2), .ref (g 4), .ref (g 16), .ref (g 64), .ref (g 65), .ref (g 66), .ref (g 70), .ref (g 75), .ref (g 87), .ref (g 94), .int 0, .int 0, .int 0])), ((g 16), .inr (1, [.ref (g 17), .ref (g 18), .ref (g 19), .ref (g 20), .ref (g 21), .ref (g 22), .ref (g 23), .ref (g 24), .ref (g 25), .ref (g 26), .ref (g 27)])), ((g 17), .inl ((a 17), 11, .inl (fun _ => 0)))] := hD
  have er : r = 0 := er
  subst er
  refine lv_if_ne (tgt := 14) hx hb dX8_keeps_8 (by decide) (fun c2 => ?_) (fun c2 => ?_)
  · exact absurd c2 (by decide)
  · refine lv_bipush (v := (-2)) hx hb dX8_keeps_11 (by decide) ?_
    exact e_i hx hb hr hlocks hP hD hS (fun _ => 0) [] rfl rfl rfl dX8_keeps_13
set_option maxRecDepth 100000 in
set_option maxHeartbeats 4000000 in
theorem k_X9_keeps (l : Launch) (dC : Nat → ClassId) (dI : Nat → Nat → Nat) (g : Nat → Nat) (a : Nat → ClassId) (p0 : Int32)  : MI l dC dI yX9_keeps (Cond.code yX9_keeps cX9_keeps 2 (some .int)) ({ frames := 2, cells := 0, slots := 0, locals := 45 }) [.ref (g 0), .int p0] [((a 1), .int), ((a 15), .int), ((a 17), .int), ((a 21), .boolean), ((a 16), .boolean)] [((g 0), .inr (9, oM g 0 0 0 0 0 0 (-1))), ((g 1), .inl ((a 1), 68, .inl (fun _ => 0))), ((g 15), .inl ((a 15), 6, .inl (fun _ => 0))), ((g 17), .inl ((a 17), 6, .inl (fun _ => 0))), ((g 21), .inl ((a 21), 60, .inl (fun _ => 0))), ((g 16), .inl ((a 16), 360, .inl (fun _ => 0)))] (fun r : Int32 => r = (-2)) (fun f => []) := by
  refine m_of (Qc := fun A => QI dC dI A (fun r : Int32 => r = (-2)) (fun f => [])) (lv := [(0, .ref (g 0)), (1, .int p0)]) (by decide) (Nat.le_of_ble_eq_true rfl) rfl ?_
  intro p e s m below meth c A ls hx hb hr hml hT hown hlocks hname hP hK hD hS hA hl
  have hown : s.vm.findClass RX9 = some m.cls := hown
  refine lv_aload_n hx hb dX9_keeps_0 rfl (lv_at hl 0 rfl) ?_
  refine c_Vv (C := RX9) (As := []) (rest := []) (wr := []) (n := 0) ⟨hx, hb, hml, hown, hT⟩ (k_X9_asItIs l dC dI g a ) hK hP hD hS hA [0, 1, 2, 3, 4] rfl [0, 1, 2, 3, 4, 5] [] rfl rfl rfl rfl (by decide) rfl rfl mw_114 mw_115 mw_116 mw_19 mw_117 (by decide +kernel) ⟨Nat.le_of_ble_eq_true rfl, Nat.le_of_ble_eq_true rfl⟩ ⟨rfl, rfl⟩ rfl hl.1 (Nat.le_of_ble_eq_true rfl) rfl dX9_keeps_1 ⟨Nat.zero_le _, Nat.zero_le _⟩ (fun f1 H locs hP hD hS => ?_)
  have hP : va_P (dC, dI) vwCl [((g 0), .inr (9, oM g 0 0 0 0 0 0 (-1))), ((g 1), .inl ((a 1), 68, .inl (fun _ => 0))), ((g 15), .inl ((a 15), 6, .inl (fun _ => 0))), ((g 21), .inl ((a 21), 60, .inl (fun _ => 0))), ((g 16), .inl ((a 16), 360, .inl (fun _ => 0)))] H := hP
  have hD : va_D A [((g 0), .inr (9, oM g 0 0 0 0 0 0 (-1))), ((g 1), .inl ((a 1), 68, .inl (fun _ => 0))), ((g 15), .inl ((a 15), 6, .inl (fun _ => 0))), ((g 21), .inl ((a 21), 60, .inl (fun _ => 0))), ((g 16), .inl ((a 16), 360, .inl (fun _ => 0)))] := hD
  refine lv_iload_n hx hb dX9_keeps_4 rfl (lv_at hl 1 rfl) ?_
  refine lv_i2l (v := p0.toInt64) hx hb dX9_keeps_5 rfl ?_
  refine lv_lconst (v := 0) hx hb dX9_keeps_6 (by decide) ?_
  refine lv_aload_n hx hb dX9_keeps_7 rfl (lv_at hl 0 rfl) ?_
  refine va_get (D := (dC, dI)) (ci := 9) (v := .ref (g 1)) (C := RX9) (T := TX9) (N := 61) hx hb hT inT9 hown hK hP 0 rfl rfl 1 (by decide) (hT _ mw_95) (fun _ h9 => h9) rfl dX9_keeps_8 ?_
  refine lv_bipush (v := 6) hx hb dX9_keeps_11 (by decide) ?_
  refine va_iald hx hb hK hP 1 0 rfl rfl (by unfold vp_in; decide) dX9_keeps_13 ?_
  refine t_i 0 rfl ?_
  refine lv_iconst (v := 1) hx hb dX9_keeps_14 (by decide) ?_
  refine lv_isub hx hb dX9_keeps_15 ?_
  refine t_i (-1) (by decide) ?_
  refine lv_i2l (v := (-1)) hx hb dX9_keeps_16 (by decide) ?_
  refine c_Si (As := [.long p0.toInt64, .long 0, .long (-1)]) (rest := []) (wr := [((g 0), .inr (9, oM g 0 0 0 0 0 0 (-1))), ((g 1), .inl ((a 1), 68, .inl (fun _ => 0))), ((g 15), .inl ((a 15), 6, .inl (fun _ => 0))), ((g 21), .inl ((a 21), 60, .inl (fun _ => 0))), ((g 16), .inl ((a 16), 360, .inl (fun _ => 0)))]) (n := 3) ⟨hx, hb, hml, hown, hT⟩ (k_X9_in l dC dI g a p0.toInt64 0 (-1) p0.toInt 0 (-1) (Int32.toInt_toInt64 _) (by decide) (by decide)) hK hP hD hS hA [] rfl [] [0, 1, 2, 3, 4] rfl rfl rfl rfl (by decide) mw_17 mw_18 mw_19 mw_20 (by decide +kernel) ⟨Nat.le_of_ble_eq_true rfl, Nat.le_of_ble_eq_true rfl⟩ ⟨rfl, rfl⟩ rfl hl.1 (Nat.le_of_ble_eq_true rfl) rfl dX9_keeps_17 ⟨Nat.zero_le _, Nat.zero_le _⟩ (fun r f2 H locs er hP hD hS => ?_)
  have hP : va_P (dC, dI) vwCl [((g 0), .inr (9, oM g 0 0 0 0 0 0 (-1))), ((g 1), .inl ((a 1), 68, .inl (fun _ => 0))), ((g 15), .inl ((a 15), 6, .inl (fun _ => 0))), ((g 21), .inl ((a 21), 60, .inl (fun _ => 0))), ((g 16), .inl ((a 16), 360, .inl (fun _ => 0)))] H := hP
  have hD : va_D A [((g 0), .inr (9, oM g 0 0 0 0 0 0 (-1))), ((g 1), .inl ((a 1), 68, .inl (fun _ => 0))), ((g 15), .inl ((a 15), 6, .inl (fun _ => 0))), ((g 21), .inl ((a 21), 60, .inl (fun _ => 0))), ((g 16), .inl ((a 16), 360, .inl (fun _ => 0)))] := hD
  by_cases hc : (0 : Int) ≤ p0.toInt ∧ p0.toInt ≤ (-1 : Int)
  · omega
  · have er : r = 0 := er.trans (if_neg hc)
    subst er
    refine lv_if_eq (tgt := 39) hx hb dX9_keeps_20 (by decide) (fun c3 => ?_) (fun c3 => ?_)
    · refine lv_bipush (v := (-2)) hx hb dX9_keeps_39 (by decide) ?_
      exact e_i hx hb hr hlocks hP hD hS (fun _ => 0) [] rfl rfl rfl dX9_keeps_41
    · exact absurd c3 (by decide)
set_option maxRecDepth 100000 in
set_option maxHeartbeats 4000000 in
theorem k_X8_holds (l : Launch) (dC : Nat → ClassId) (dI : Nat → Nat → Nat) (g : Nat → Nat) (a : Nat → ClassId) (p0 : Int32) (p1 : Int32)  : MI l dC dI yX8_holds (Cond.code yX8_holds cX8_holds 3 (some .int)) ({ frames := 1, cells := 0, slots := 0, locals := 21 }) [.ref (g 0), .int p0, .int p1] [((a 17), .int)] [((g 0), .inr (8, [.ref (g 1), .ref (g 2), .ref (g 4), .ref (g 16), .ref (g 64), .ref (g 65), .ref (g 66), .ref (g 70), .ref (g 75), .ref (g 87), .ref (g 94), .int 0, .int 0, .int 0])), ((g 16), .inr (1, [.ref (g 17), .ref (g 18), .ref (g 19), .ref (g 20), .ref (g 21), .ref (g 22), .ref (g 23), .ref (g 24), .ref (g 25), .ref (g 26), .ref (g 27)])), ((g 17), .inl ((a 17), 11, .inl (fun _ => 0)))] (fun r : Int32 => r = (-2)) (fun f => []) := by
  refine m_of (Qc := fun A => QI dC dI A (fun r : Int32 => r = (-2)) (fun f => [])) (lv := [(0, .ref (g 0)), (1, .int p0), (2, .int p1)]) (by decide) (Nat.le_of_ble_eq_true rfl) rfl ?_
  intro p e s m below meth c A ls hx hb hr hml hT hown hlocks hname hP hK hD hS hA hl
  have hown : s.vm.findClass RX8 = some m.cls := hown
  refine lv_aload_n hx hb dX8_holds_0 rfl (lv_at hl 0 rfl) ?_
  refine va_get (D := (dC, dI)) (ci := 8) (v := .ref (g 16)) (C := RX8) (T := TX8) (N := 14) hx hb hT inT8 hown hK hP 0 rfl rfl 3 (by decide) (hT _ mw_45) (fun _ h9 => h9) rfl dX8_holds_1 ?_
  refine lv_iload_n hx hb dX8_holds_4 rfl (lv_at hl 1 rfl) ?_
  refine c_Vi (C := RX1) (As := [.int p0]) (rest := []) (wr := [((g 0), .inr (8, [.ref (g 1), .ref (g 2), .ref (g 4), .ref (g 16), .ref (g 64), .ref (g 65), .ref (g 66), .ref (g 70), .ref (g 75), .ref (g 87), .ref (g 94), .int 0, .int 0, .int 0]))]) (n := 1) ⟨hx, hb, hml, hown, hT⟩ (k_X1_hasHand l dC dI g a p0) hK hP hD hS hA [0] rfl [1, 2] [0] rfl rfl rfl rfl (by decide) rfl rfl mw_99 mw_100 mw_101 mw_27 mw_102 (by decide +kernel) ⟨Nat.le_of_ble_eq_true rfl, Nat.le_of_ble_eq_true rfl⟩ ⟨rfl, rfl⟩ rfl hl.1 (Nat.le_of_ble_eq_true rfl) rfl dX8_holds_5 ⟨Nat.zero_le _, Nat.zero_le _⟩ (fun r f1 H locs er hP hD hS => ?_)
  have hP : va_P (dC, dI) vwCl [((g 0), .inr (8, [.ref (g 1), .ref (g 2), .ref (g 4), .ref (g 16), .ref (g 64), .ref (g 65), .ref (g 66), .ref (g 70), .ref (g 75), .ref (g 87), .ref (g 94), .int 0, .int 0, .int 0])), ((g 16), .inr (1, [.ref (g 17), .ref (g 18), .ref (g 19), .ref (g 20), .ref (g 21), .ref (g 22), .ref (g 23), .ref (g 24), .ref (g 25), .ref (g 26), .ref (g 27)])), ((g 17), .inl ((a 17), 11, .inl (fun _ => 0)))] H := hP
  have hD : va_D A [((g 0), .inr (8, [.ref (g 1), .ref (g 2), .ref (g 4), .ref (g 16), .ref (g 64), .ref (g 65), .ref (g 66), .ref (g 70), .ref (g 75), .ref (g 87), .ref (g 94), .int 0, .int 0, .int 0])), ((g 16), .inr (1, [.ref (g 17), .ref (g 18), .ref (g 19), .ref (g 20), .ref (g 21), .ref (g 22), .ref (g 23), .ref (g 24), .ref (g 25), .ref (g 26), .ref (g 27)])), ((g 17), .inl ((a 17), 11, .inl (fun _ => 0)))] := hD
  have er : r = 0 := er
  subst er
  refine lv_if_eq (tgt := 22) hx hb dX8_holds_8 (by decide) (fun c2 => ?_) (fun c2 => ?_)
  · refine lv_bipush (v := (-2)) hx hb dX8_holds_22 (by decide) ?_
    exact e_i hx hb hr hlocks hP hD hS (fun _ => 0) [] rfl rfl rfl dX8_holds_24
  · exact absurd c2 (by decide)
set_option maxRecDepth 100000 in
set_option maxHeartbeats 4000000 in
theorem k_X9_isBrigade (l : Launch) (dC : Nat → ClassId) (dI : Nat → Nat → Nat) (g : Nat → Nat) (a : Nat → ClassId)   : MI l dC dI yX9_isBrigade (Cond.code yX9_isBrigade cX9_isBrigade 1 (some .boolean)) ({ frames := 0, cells := 0, slots := 0, locals := 0 }) [.ref (g 0)] [((a 1), .int)] [((g 0), .inr (9, oM g 0 0 0 0 0 0 (-1))), ((g 1), .inl ((a 1), 68, .inl (fun _ => 0)))] (fun r : Int32 => r = 0) (fun f => [((g 0), .inr (9, oM g 0 0 0 0 0 0 (-1))), ((g 1), .inl ((a 1), 68, .inl (fun _ => 0)))]) := by
  refine m_of (Qc := fun A => QI dC dI A (fun r : Int32 => r = 0) (fun f => [((g 0), .inr (9, oM g 0 0 0 0 0 0 (-1))), ((g 1), .inl ((a 1), 68, .inl (fun _ => 0)))])) (lv := [(0, .ref (g 0))]) (by decide) (Nat.le_of_ble_eq_true rfl) rfl ?_
  intro p e s m below meth c A ls hx hb hr hml hT hown hlocks hname hP hK hD hS hA hl
  have hown : s.vm.findClass RX9 = some m.cls := hown
  refine lv_aload_n hx hb dX9_isBrigade_0 rfl (lv_at hl 0 rfl) ?_
  refine va_get (D := (dC, dI)) (ci := 9) (v := .ref (g 1)) (C := RX9) (T := TX9) (N := 61) hx hb hT inT9 hown hK hP 0 rfl rfl 1 (by decide) (hT _ mw_95) (fun _ h9 => h9) rfl dX9_isBrigade_1 ?_
  refine lv_bipush (v := 10) hx hb dX9_isBrigade_4 (by decide) ?_
  refine va_iald hx hb hK hP 1 0 rfl rfl (by unfold vp_in; decide) dX9_isBrigade_6 ?_
  refine t_i 0 rfl ?_
  refine lv_if_le (tgt := 14) hx hb dX9_isBrigade_7 (by decide) (fun c1 => ?_) (fun c1 => ?_)
  · refine lv_iconst (v := 0) hx hb dX9_isBrigade_14 (by decide) ?_
    exact e_z hx hb hr hlocks hP hD hS (fun _ => 0) [0, 1] rfl rfl rfl rfl dX9_isBrigade_15
  · exact absurd c1 (by decide)
set_option maxRecDepth 100000 in
set_option maxHeartbeats 4000000 in
theorem k_X9_asksBrigade (l : Launch) (dC : Nat → ClassId) (dI : Nat → Nat → Nat) (g : Nat → Nat) (a : Nat → ClassId)   : MI l dC dI yX9_asksBrigade (Cond.code yX9_asksBrigade cX9_asksBrigade 1 (some .boolean)) ({ frames := 2, cells := 0, slots := 0, locals := 45 }) [.ref (g 0)] [((a 1), .int), ((a 15), .int), ((a 17), .int), ((a 21), .boolean), ((a 16), .boolean)] [((g 0), .inr (9, oM g 0 0 0 0 0 0 (-1))), ((g 1), .inl ((a 1), 68, .inl (fun _ => 0))), ((g 15), .inl ((a 15), 6, .inl (fun _ => 0))), ((g 17), .inl ((a 17), 6, .inl (fun _ => 0))), ((g 21), .inl ((a 21), 60, .inl (fun _ => 0))), ((g 16), .inl ((a 16), 360, .inl (fun _ => 0)))] (fun r : Int32 => r = 0) (fun f => [((g 0), .inr (9, oM g 0 0 0 0 0 0 (-1))), ((g 1), .inl ((a 1), 68, .inl (fun _ => 0))), ((g 15), .inl ((a 15), 6, .inl (fun _ => 0))), ((g 21), .inl ((a 21), 60, .inl (fun _ => 0))), ((g 16), .inl ((a 16), 360, .inl (fun _ => 0)))]) := by
  refine m_of (Qc := fun A => QI dC dI A (fun r : Int32 => r = 0) (fun f => [((g 0), .inr (9, oM g 0 0 0 0 0 0 (-1))), ((g 1), .inl ((a 1), 68, .inl (fun _ => 0))), ((g 15), .inl ((a 15), 6, .inl (fun _ => 0))), ((g 21), .inl ((a 21), 60, .inl (fun _ => 0))), ((g 16), .inl ((a 16), 360, .inl (fun _ => 0)))])) (lv := [(0, .ref (g 0))]) (by decide) (Nat.le_of_ble_eq_true rfl) rfl ?_
  intro p e s m below meth c A ls hx hb hr hml hT hown hlocks hname hP hK hD hS hA hl
  have hown : s.vm.findClass RX9 = some m.cls := hown
  refine lv_aload_n hx hb dX9_asksBrigade_0 rfl (lv_at hl 0 rfl) ?_
  refine c_Vv (C := RX9) (As := []) (rest := []) (wr := []) (n := 0) ⟨hx, hb, hml, hown, hT⟩ (k_X9_asItIs l dC dI g a ) hK hP hD hS hA [0, 1, 2, 3, 4] rfl [0, 1, 2, 3, 4, 5] [] rfl rfl rfl rfl (by decide) rfl rfl mw_114 mw_115 mw_116 mw_19 mw_117 (by decide +kernel) ⟨Nat.le_of_ble_eq_true rfl, Nat.le_of_ble_eq_true rfl⟩ ⟨rfl, rfl⟩ rfl hl.1 (Nat.le_of_ble_eq_true rfl) rfl dX9_asksBrigade_1 ⟨Nat.zero_le _, Nat.zero_le _⟩ (fun f1 H locs hP hD hS => ?_)
  have hP : va_P (dC, dI) vwCl [((g 0), .inr (9, oM g 0 0 0 0 0 0 (-1))), ((g 1), .inl ((a 1), 68, .inl (fun _ => 0))), ((g 15), .inl ((a 15), 6, .inl (fun _ => 0))), ((g 21), .inl ((a 21), 60, .inl (fun _ => 0))), ((g 16), .inl ((a 16), 360, .inl (fun _ => 0)))] H := hP
  have hD : va_D A [((g 0), .inr (9, oM g 0 0 0 0 0 0 (-1))), ((g 1), .inl ((a 1), 68, .inl (fun _ => 0))), ((g 15), .inl ((a 15), 6, .inl (fun _ => 0))), ((g 21), .inl ((a 21), 60, .inl (fun _ => 0))), ((g 16), .inl ((a 16), 360, .inl (fun _ => 0)))] := hD
  refine lv_aload_n hx hb dX9_asksBrigade_4 rfl (lv_at hl 0 rfl) ?_
  refine c_Vi (C := RX9) (As := []) (rest := []) (wr := [((g 15), .inl ((a 15), 6, .inl (fun _ => 0))), ((g 21), .inl ((a 21), 60, .inl (fun _ => 0))), ((g 16), .inl ((a 16), 360, .inl (fun _ => 0)))]) (n := 0) ⟨hx, hb, hml, hown, hT⟩ (k_X9_isBrigade l dC dI g a ) hK hP hD hS hA [0] rfl [0, 1] [2, 3, 4] rfl rfl rfl rfl (by decide) rfl rfl mw_126 mw_127 mw_128 mw_19 mw_129 (by decide +kernel) ⟨Nat.le_of_ble_eq_true rfl, Nat.le_of_ble_eq_true rfl⟩ ⟨rfl, rfl⟩ rfl hl.1 (Nat.le_of_ble_eq_true rfl) rfl dX9_asksBrigade_5 ⟨Nat.zero_le _, Nat.zero_le _⟩ (fun r f2 H locs er hP hD hS => ?_)
  have hP : va_P (dC, dI) vwCl [((g 15), .inl ((a 15), 6, .inl (fun _ => 0))), ((g 21), .inl ((a 21), 60, .inl (fun _ => 0))), ((g 16), .inl ((a 16), 360, .inl (fun _ => 0))), ((g 0), .inr (9, oM g 0 0 0 0 0 0 (-1))), ((g 1), .inl ((a 1), 68, .inl (fun _ => 0)))] H := hP
  have hD : va_D A [((g 15), .inl ((a 15), 6, .inl (fun _ => 0))), ((g 21), .inl ((a 21), 60, .inl (fun _ => 0))), ((g 16), .inl ((a 16), 360, .inl (fun _ => 0))), ((g 0), .inr (9, oM g 0 0 0 0 0 0 (-1))), ((g 1), .inl ((a 1), 68, .inl (fun _ => 0)))] := hD
  have er : r = 0 := er
  subst er
  refine lv_if_eq (tgt := 19) hx hb dX9_asksBrigade_8 (by decide) (fun c3 => ?_) (fun c3 => ?_)
  · refine lv_aload_n hx hb dX9_asksBrigade_19 rfl (lv_at hl 0 rfl) ?_
    refine c_Vi (C := RX9) (As := []) (rest := []) (wr := [((g 15), .inl ((a 15), 6, .inl (fun _ => 0))), ((g 21), .inl ((a 21), 60, .inl (fun _ => 0))), ((g 16), .inl ((a 16), 360, .inl (fun _ => 0)))]) (n := 0) ⟨hx, hb, hml, hown, hT⟩ (k_X9_isBrigade l dC dI g a ) hK hP hD hS hA [0] rfl [3, 4] [0, 1, 2] rfl rfl rfl rfl (by decide) rfl rfl mw_126 mw_127 mw_128 mw_19 mw_129 (by decide +kernel) ⟨Nat.le_of_ble_eq_true rfl, Nat.le_of_ble_eq_true rfl⟩ ⟨rfl, rfl⟩ rfl hl.1 (Nat.le_of_ble_eq_true rfl) rfl dX9_asksBrigade_20 ⟨Nat.zero_le _, Nat.zero_le _⟩ (fun r f4 H locs er hP hD hS => ?_)
    have hP : va_P (dC, dI) vwCl [((g 15), .inl ((a 15), 6, .inl (fun _ => 0))), ((g 21), .inl ((a 21), 60, .inl (fun _ => 0))), ((g 16), .inl ((a 16), 360, .inl (fun _ => 0))), ((g 0), .inr (9, oM g 0 0 0 0 0 0 (-1))), ((g 1), .inl ((a 1), 68, .inl (fun _ => 0)))] H := hP
    have hD : va_D A [((g 15), .inl ((a 15), 6, .inl (fun _ => 0))), ((g 21), .inl ((a 21), 60, .inl (fun _ => 0))), ((g 16), .inl ((a 16), 360, .inl (fun _ => 0))), ((g 0), .inr (9, oM g 0 0 0 0 0 0 (-1))), ((g 1), .inl ((a 1), 68, .inl (fun _ => 0)))] := hD
    have er : r = 0 := er
    subst er
    exact e_z hx hb hr hlocks hP hD hS (fun _ => 0) [3, 4, 0, 1, 2] rfl rfl rfl rfl dX9_asksBrigade_23
  · exact absurd c3 (by decide)
set_option maxRecDepth 100000 in
set_option maxHeartbeats 4000000 in
theorem k_X9_asksSecond (l : Launch) (dC : Nat → ClassId) (dI : Nat → Nat → Nat) (g : Nat → Nat) (a : Nat → ClassId) (p0 : Int32)  : MI l dC dI yX9_asksSecond (Cond.code yX9_asksSecond cX9_asksSecond 2 (some .boolean)) ({ frames := 3, cells := 0, slots := 0, locals := 65 }) [.ref (g 0), .int p0] [((a 1), .int), ((a 15), .int), ((a 17), .int), ((a 21), .boolean), ((a 16), .boolean)] [((g 0), .inr (9, oM g 0 0 0 0 0 0 (-1))), ((g 1), .inl ((a 1), 68, .inl (fun _ => 0))), ((g 15), .inl ((a 15), 6, .inl (fun _ => 0))), ((g 17), .inl ((a 17), 6, .inl (fun _ => 0))), ((g 21), .inl ((a 21), 60, .inl (fun _ => 0))), ((g 16), .inl ((a 16), 360, .inl (fun _ => 0)))] (fun r : Int32 => r = 0) (fun f => [((g 0), .inr (9, oM g 0 0 0 0 0 0 (-1))), ((g 1), .inl ((a 1), 68, .inl (fun _ => 0))), ((g 15), .inl ((a 15), 6, .inl (fun _ => 0))), ((g 21), .inl ((a 21), 60, .inl (fun _ => 0))), ((g 16), .inl ((a 16), 360, .inl (fun _ => 0)))]) := by
  refine m_of (Qc := fun A => QI dC dI A (fun r : Int32 => r = 0) (fun f => [((g 0), .inr (9, oM g 0 0 0 0 0 0 (-1))), ((g 1), .inl ((a 1), 68, .inl (fun _ => 0))), ((g 15), .inl ((a 15), 6, .inl (fun _ => 0))), ((g 21), .inl ((a 21), 60, .inl (fun _ => 0))), ((g 16), .inl ((a 16), 360, .inl (fun _ => 0)))])) (lv := [(0, .ref (g 0)), (1, .int p0)]) (by decide) (Nat.le_of_ble_eq_true rfl) rfl ?_
  intro p e s m below meth c A ls hx hb hr hml hT hown hlocks hname hP hK hD hS hA hl
  have hown : s.vm.findClass RX9 = some m.cls := hown
  refine lv_aload_n hx hb dX9_asksSecond_0 rfl (lv_at hl 0 rfl) ?_
  refine c_Vi (C := RX9) (As := []) (rest := []) (wr := []) (n := 0) ⟨hx, hb, hml, hown, hT⟩ (k_X9_asksBrigade l dC dI g a ) hK hP hD hS hA [0, 1, 2, 3, 4] rfl [0, 1, 2, 3, 4, 5] [] rfl rfl rfl rfl (by decide) rfl rfl mw_130 mw_131 mw_132 mw_19 mw_133 (by decide +kernel) ⟨Nat.le_of_ble_eq_true rfl, Nat.le_of_ble_eq_true rfl⟩ ⟨rfl, rfl⟩ rfl hl.1 (Nat.le_of_ble_eq_true rfl) rfl dX9_asksSecond_1 ⟨Nat.zero_le _, Nat.zero_le _⟩ (fun r f1 H locs er hP hD hS => ?_)
  have hP : va_P (dC, dI) vwCl [((g 0), .inr (9, oM g 0 0 0 0 0 0 (-1))), ((g 1), .inl ((a 1), 68, .inl (fun _ => 0))), ((g 15), .inl ((a 15), 6, .inl (fun _ => 0))), ((g 21), .inl ((a 21), 60, .inl (fun _ => 0))), ((g 16), .inl ((a 16), 360, .inl (fun _ => 0)))] H := hP
  have hD : va_D A [((g 0), .inr (9, oM g 0 0 0 0 0 0 (-1))), ((g 1), .inl ((a 1), 68, .inl (fun _ => 0))), ((g 15), .inl ((a 15), 6, .inl (fun _ => 0))), ((g 21), .inl ((a 21), 60, .inl (fun _ => 0))), ((g 16), .inl ((a 16), 360, .inl (fun _ => 0)))] := hD
  have er : r = 0 := er
  subst er
  refine lv_if_eq (tgt := 20) hx hb dX9_asksSecond_4 (by decide) (fun c2 => ?_) (fun c2 => ?_)
  · refine lv_iconst (v := 0) hx hb dX9_asksSecond_20 (by decide) ?_
    exact e_z hx hb hr hlocks hP hD hS (fun _ => 0) [0, 1, 2, 3, 4] rfl rfl rfl rfl dX9_asksSecond_21
  · exact absurd c2 (by decide)
set_option maxRecDepth 100000 in
set_option maxHeartbeats 4000000 in
theorem k_X9_holds (l : Launch) (dC : Nat → ClassId) (dI : Nat → Nat → Nat) (g : Nat → Nat) (a : Nat → ClassId) (p0 : Int32) (p1 : Int32)  : MI l dC dI yX9_holds (Cond.code yX9_holds cX9_holds 3 (some .int)) ({ frames := 4, cells := 0, slots := 0, locals := 86 }) [.ref (g 0), .int p0, .int p1] [((a 1), .int), ((a 15), .int), ((a 17), .int), ((a 21), .boolean), ((a 16), .boolean)] [((g 0), .inr (9, oM g 0 0 0 0 0 0 (-1))), ((g 1), .inl ((a 1), 68, .inl (fun _ => 0))), ((g 15), .inl ((a 15), 6, .inl (fun _ => 0))), ((g 17), .inl ((a 17), 6, .inl (fun _ => 0))), ((g 21), .inl ((a 21), 60, .inl (fun _ => 0))), ((g 16), .inl ((a 16), 360, .inl (fun _ => 0)))] (fun r : Int32 => r = (-2)) (fun f => []) := by
  refine m_of (Qc := fun A => QI dC dI A (fun r : Int32 => r = (-2)) (fun f => [])) (lv := [(0, .ref (g 0)), (1, .int p0), (2, .int p1)]) (by decide) (Nat.le_of_ble_eq_true rfl) rfl ?_
  intro p e s m below meth c A ls hx hb hr hml hT hown hlocks hname hP hK hD hS hA hl
  have hown : s.vm.findClass RX9 = some m.cls := hown
  refine lv_aload_n hx hb dX9_holds_0 rfl (lv_at hl 0 rfl) ?_
  refine lv_iload_n hx hb dX9_holds_1 rfl (lv_at hl 2 rfl) ?_
  refine c_Vi (C := RX9) (As := [.int p1]) (rest := []) (wr := []) (n := 1) ⟨hx, hb, hml, hown, hT⟩ (k_X9_asksSecond l dC dI g a p1) hK hP hD hS hA [0, 1, 2, 3, 4] rfl [0, 1, 2, 3, 4, 5] [] rfl rfl rfl rfl (by decide) rfl rfl mw_134 mw_135 mw_136 mw_19 mw_137 (by decide +kernel) ⟨Nat.le_of_ble_eq_true rfl, Nat.le_of_ble_eq_true rfl⟩ ⟨rfl, rfl⟩ rfl hl.1 (Nat.le_of_ble_eq_true rfl) rfl dX9_holds_2 ⟨Nat.zero_le _, Nat.zero_le _⟩ (fun r f1 H locs er hP hD hS => ?_)
  have hP : va_P (dC, dI) vwCl [((g 0), .inr (9, oM g 0 0 0 0 0 0 (-1))), ((g 1), .inl ((a 1), 68, .inl (fun _ => 0))), ((g 15), .inl ((a 15), 6, .inl (fun _ => 0))), ((g 21), .inl ((a 21), 60, .inl (fun _ => 0))), ((g 16), .inl ((a 16), 360, .inl (fun _ => 0)))] H := hP
  have hD : va_D A [((g 0), .inr (9, oM g 0 0 0 0 0 0 (-1))), ((g 1), .inl ((a 1), 68, .inl (fun _ => 0))), ((g 15), .inl ((a 15), 6, .inl (fun _ => 0))), ((g 21), .inl ((a 21), 60, .inl (fun _ => 0))), ((g 16), .inl ((a 16), 360, .inl (fun _ => 0)))] := hD
  have er : r = 0 := er
  subst er
  refine lv_if_eq (tgt := 44) hx hb dX9_holds_5 (by decide) (fun c2 => ?_) (fun c2 => ?_)
  · refine lv_bipush (v := (-2)) hx hb dX9_holds_44 (by decide) ?_
    exact e_i hx hb hr hlocks hP hD hS (fun _ => 0) [] rfl rfl rfl dX9_holds_46
  · exact absurd c2 (by decide)
set_option maxRecDepth 100000 in
set_option maxHeartbeats 4000000 in
theorem k_X8_held (l : Launch) (dC : Nat → ClassId) (dI : Nat → Nat → Nat) (g : Nat → Nat) (a : Nat → ClassId) (p0 : Int32) (p1 : Int32)  : MI l dC dI yX8_held (Cond.code yX8_held cX8_held 3 (some .int)) ({ frames := 1, cells := 0, slots := 0, locals := 21 }) [.ref (g 0), .int p0, .int p1] [((a 17), .int)] [((g 0), .inr (8, [.ref (g 1), .ref (g 2), .ref (g 4), .ref (g 16), .ref (g 64), .ref (g 65), .ref (g 66), .ref (g 70), .ref (g 75), .ref (g 87), .ref (g 94), .int 0, .int 0, .int 0])), ((g 16), .inr (1, [.ref (g 17), .ref (g 18), .ref (g 19), .ref (g 20), .ref (g 21), .ref (g 22), .ref (g 23), .ref (g 24), .ref (g 25), .ref (g 26), .ref (g 27)])), ((g 17), .inl ((a 17), 11, .inl (fun _ => 0)))] (fun r : Int32 => r = (-2)) (fun f => []) := by
  refine m_of (Qc := fun A => QI dC dI A (fun r : Int32 => r = (-2)) (fun f => [])) (lv := [(0, .ref (g 0)), (1, .int p0), (2, .int p1)]) (by decide) (Nat.le_of_ble_eq_true rfl) rfl ?_
  intro p e s m below meth c A ls hx hb hr hml hT hown hlocks hname hP hK hD hS hA hl
  have hown : s.vm.findClass RX8 = some m.cls := hown
  refine lv_aload_n hx hb dX8_held_0 rfl (lv_at hl 0 rfl) ?_
  refine va_get (D := (dC, dI)) (ci := 8) (v := .ref (g 16)) (C := RX8) (T := TX8) (N := 14) hx hb hT inT8 hown hK hP 0 rfl rfl 3 (by decide) (hT _ mw_45) (fun _ h9 => h9) rfl dX8_held_1 ?_
  refine lv_iload_n hx hb dX8_held_4 rfl (lv_at hl 1 rfl) ?_
  refine c_Vi (C := RX1) (As := [.int p0]) (rest := []) (wr := [((g 0), .inr (8, [.ref (g 1), .ref (g 2), .ref (g 4), .ref (g 16), .ref (g 64), .ref (g 65), .ref (g 66), .ref (g 70), .ref (g 75), .ref (g 87), .ref (g 94), .int 0, .int 0, .int 0]))]) (n := 1) ⟨hx, hb, hml, hown, hT⟩ (k_X1_hasHand l dC dI g a p0) hK hP hD hS hA [0] rfl [1, 2] [0] rfl rfl rfl rfl (by decide) rfl rfl mw_99 mw_100 mw_101 mw_27 mw_102 (by decide +kernel) ⟨Nat.le_of_ble_eq_true rfl, Nat.le_of_ble_eq_true rfl⟩ ⟨rfl, rfl⟩ rfl hl.1 (Nat.le_of_ble_eq_true rfl) rfl dX8_held_5 ⟨Nat.zero_le _, Nat.zero_le _⟩ (fun r f1 H locs er hP hD hS => ?_)
  have hP : va_P (dC, dI) vwCl [((g 0), .inr (8, [.ref (g 1), .ref (g 2), .ref (g 4), .ref (g 16), .ref (g 64), .ref (g 65), .ref (g 66), .ref (g 70), .ref (g 75), .ref (g 87), .ref (g 94), .int 0, .int 0, .int 0])), ((g 16), .inr (1, [.ref (g 17), .ref (g 18), .ref (g 19), .ref (g 20), .ref (g 21), .ref (g 22), .ref (g 23), .ref (g 24), .ref (g 25), .ref (g 26), .ref (g 27)])), ((g 17), .inl ((a 17), 11, .inl (fun _ => 0)))] H := hP
  have hD : va_D A [((g 0), .inr (8, [.ref (g 1), .ref (g 2), .ref (g 4), .ref (g 16), .ref (g 64), .ref (g 65), .ref (g 66), .ref (g 70), .ref (g 75), .ref (g 87), .ref (g 94), .int 0, .int 0, .int 0])), ((g 16), .inr (1, [.ref (g 17), .ref (g 18), .ref (g 19), .ref (g 20), .ref (g 21), .ref (g 22), .ref (g 23), .ref (g 24), .ref (g 25), .ref (g 26), .ref (g 27)])), ((g 17), .inl ((a 17), 11, .inl (fun _ => 0)))] := hD
  have er : r = 0 := er
  subst er
  refine lv_if_eq (tgt := 22) hx hb dX8_held_8 (by decide) (fun c2 => ?_) (fun c2 => ?_)
  · refine lv_bipush (v := (-2)) hx hb dX8_held_22 (by decide) ?_
    exact e_i hx hb hr hlocks hP hD hS (fun _ => 0) [] rfl rfl rfl dX8_held_24
  · exact absurd c2 (by decide)
set_option maxRecDepth 100000 in
set_option maxHeartbeats 4000000 in
theorem k_X9_held (l : Launch) (dC : Nat → ClassId) (dI : Nat → Nat → Nat) (g : Nat → Nat) (a : Nat → ClassId) (p0 : Int32) (p1 : Int32)  : MI l dC dI yX9_held (Cond.code yX9_held cX9_held 3 (some .int)) ({ frames := 4, cells := 0, slots := 0, locals := 86 }) [.ref (g 0), .int p0, .int p1] [((a 1), .int), ((a 15), .int), ((a 17), .int), ((a 21), .boolean), ((a 16), .boolean)] [((g 0), .inr (9, oM g 0 0 0 0 0 0 (-1))), ((g 1), .inl ((a 1), 68, .inl (fun _ => 0))), ((g 15), .inl ((a 15), 6, .inl (fun _ => 0))), ((g 17), .inl ((a 17), 6, .inl (fun _ => 0))), ((g 21), .inl ((a 21), 60, .inl (fun _ => 0))), ((g 16), .inl ((a 16), 360, .inl (fun _ => 0)))] (fun r : Int32 => r = (-2)) (fun f => []) := by
  refine m_of (Qc := fun A => QI dC dI A (fun r : Int32 => r = (-2)) (fun f => [])) (lv := [(0, .ref (g 0)), (1, .int p0), (2, .int p1)]) (by decide) (Nat.le_of_ble_eq_true rfl) rfl ?_
  intro p e s m below meth c A ls hx hb hr hml hT hown hlocks hname hP hK hD hS hA hl
  have hown : s.vm.findClass RX9 = some m.cls := hown
  refine lv_aload_n hx hb dX9_held_0 rfl (lv_at hl 0 rfl) ?_
  refine lv_iload_n hx hb dX9_held_1 rfl (lv_at hl 2 rfl) ?_
  refine c_Vi (C := RX9) (As := [.int p1]) (rest := []) (wr := []) (n := 1) ⟨hx, hb, hml, hown, hT⟩ (k_X9_asksSecond l dC dI g a p1) hK hP hD hS hA [0, 1, 2, 3, 4] rfl [0, 1, 2, 3, 4, 5] [] rfl rfl rfl rfl (by decide) rfl rfl mw_134 mw_135 mw_136 mw_19 mw_137 (by decide +kernel) ⟨Nat.le_of_ble_eq_true rfl, Nat.le_of_ble_eq_true rfl⟩ ⟨rfl, rfl⟩ rfl hl.1 (Nat.le_of_ble_eq_true rfl) rfl dX9_held_2 ⟨Nat.zero_le _, Nat.zero_le _⟩ (fun r f1 H locs er hP hD hS => ?_)
  have hP : va_P (dC, dI) vwCl [((g 0), .inr (9, oM g 0 0 0 0 0 0 (-1))), ((g 1), .inl ((a 1), 68, .inl (fun _ => 0))), ((g 15), .inl ((a 15), 6, .inl (fun _ => 0))), ((g 21), .inl ((a 21), 60, .inl (fun _ => 0))), ((g 16), .inl ((a 16), 360, .inl (fun _ => 0)))] H := hP
  have hD : va_D A [((g 0), .inr (9, oM g 0 0 0 0 0 0 (-1))), ((g 1), .inl ((a 1), 68, .inl (fun _ => 0))), ((g 15), .inl ((a 15), 6, .inl (fun _ => 0))), ((g 21), .inl ((a 21), 60, .inl (fun _ => 0))), ((g 16), .inl ((a 16), 360, .inl (fun _ => 0)))] := hD
  have er : r = 0 := er
  subst er
  refine lv_if_eq (tgt := 34) hx hb dX9_held_5 (by decide) (fun c2 => ?_) (fun c2 => ?_)
  · refine lv_bipush (v := (-2)) hx hb dX9_held_34 (by decide) ?_
    exact e_i hx hb hr hlocks hP hD hS (fun _ => 0) [] rfl rfl rfl dX9_held_36
  · exact absurd c2 (by decide)
set_option maxRecDepth 100000 in
set_option maxHeartbeats 4000000 in
theorem k_X2_clearFor (l : Launch) (dC : Nat → ClassId) (dI : Nat → Nat → Nat) (g : Nat → Nat) (a : Nat → ClassId)   : MV l dC dI yX2_clearFor (Cond.code yX2_clearFor cX2_clearFor 2 none) ({ frames := 0, cells := 0, slots := 0, locals := 0 }) [.ref (g 70), .ref (g 16)] [((a 17), .int)] [((g 70), .inr (2, [.ref (g 71), .ref (g 72), .ref (g 73), .ref (g 74), .int 0, .int 0, .int 0, .int 0, .int 0, .int 0])), ((g 16), .inr (1, [.ref (g 17), .ref (g 18), .ref (g 19), .ref (g 20), .ref (g 21), .ref (g 22), .ref (g 23), .ref (g 24), .ref (g 25), .ref (g 26), .ref (g 27)])), ((g 17), .inl ((a 17), 11, .inl (fun _ => 0)))] (fun f => [((g 70), .inr (2, [.ref (g 71), .ref (g 72), .ref (g 73), .ref (g 74), .int 0, .int 0, .int 0, .int 0, .int 0, .int 0])), ((g 16), .inr (1, [.ref (g 17), .ref (g 18), .ref (g 19), .ref (g 20), .ref (g 21), .ref (g 22), .ref (g 23), .ref (g 24), .ref (g 25), .ref (g 26), .ref (g 27)])), ((g 17), .inl ((a 17), 11, .inl (fun _ => 0)))]) := by
  refine m_of (Qc := fun A => QV dC dI A (fun f => [((g 70), .inr (2, [.ref (g 71), .ref (g 72), .ref (g 73), .ref (g 74), .int 0, .int 0, .int 0, .int 0, .int 0, .int 0])), ((g 16), .inr (1, [.ref (g 17), .ref (g 18), .ref (g 19), .ref (g 20), .ref (g 21), .ref (g 22), .ref (g 23), .ref (g 24), .ref (g 25), .ref (g 26), .ref (g 27)])), ((g 17), .inl ((a 17), 11, .inl (fun _ => 0)))])) (lv := [(0, .ref (g 70)), (1, .ref (g 16))]) (by decide) (Nat.le_of_ble_eq_true rfl) rfl ?_
  intro p e s m below meth c A ls hx hb hr hml hT hown hlocks hname hP hK hD hS hA hl
  have hown : s.vm.findClass RX2 = some m.cls := hown
  refine lv_aload_n hx hb dX2_clearFor_0 rfl (lv_at hl 0 rfl) ?_
  refine lv_iconst (v := 0) hx hb dX2_clearFor_1 (by decide) ?_
  refine va_put (D := (dC, dI)) (ci := 2) (v := .int 0) (ty := .int) (C := RX2) (T := TX2) (N := 10) hx hb hT inT2 tyX2 tyX2_ok nmX2 hown hK hP hD hS 0 rfl rfl 4 (by decide) (hT _ mw_139) (fun _ h9 => h9) rfl (by decide +kernel) rfl rfl (Nat.le_of_ble_eq_true rfl) dX2_clearFor_2 (fun H locs hP hD hS => ?_)
  have hP : va_P (dC, dI) vwCl [((g 70), .inr (2, [.ref (g 71), .ref (g 72), .ref (g 73), .ref (g 74), .int 0, .int 0, .int 0, .int 0, .int 0, .int 0])), ((g 16), .inr (1, [.ref (g 17), .ref (g 18), .ref (g 19), .ref (g 20), .ref (g 21), .ref (g 22), .ref (g 23), .ref (g 24), .ref (g 25), .ref (g 26), .ref (g 27)])), ((g 17), .inl ((a 17), 11, .inl (fun _ => 0)))] H := hP
  have hD : va_D A [((g 70), .inr (2, [.ref (g 71), .ref (g 72), .ref (g 73), .ref (g 74), .int 0, .int 0, .int 0, .int 0, .int 0, .int 0])), ((g 16), .inr (1, [.ref (g 17), .ref (g 18), .ref (g 19), .ref (g 20), .ref (g 21), .ref (g 22), .ref (g 23), .ref (g 24), .ref (g 25), .ref (g 26), .ref (g 27)])), ((g 17), .inl ((a 17), 11, .inl (fun _ => 0)))] := hD
  refine lv_aload_n hx hb dX2_clearFor_5 rfl (lv_at hl 0 rfl) ?_
  refine lv_aload_n hx hb dX2_clearFor_6 rfl (lv_at hl 1 rfl) ?_
  refine va_get (D := (dC, dI)) (ci := 1) (v := .ref (g 17)) (C := RX1) (T := TX1) (N := 11) hx hb hT inT1 hown hK hP 1 rfl rfl 0 (by decide) (hT _ mw_140) (fun _ h9 => h9) rfl dX2_clearFor_7 ?_
  refine lv_iconst (v := 1) hx hb dX2_clearFor_10 (by decide) ?_
  refine va_iald hx hb hK hP 2 0 rfl rfl (by unfold vp_in; decide) dX2_clearFor_11 ?_
  refine t_i 0 rfl ?_
  refine va_put (D := (dC, dI)) (ci := 2) (v := .int 0) (ty := .int) (C := RX2) (T := TX2) (N := 10) hx hb hT inT2 tyX2 tyX2_ok nmX2 hown hK hP hD hS 0 rfl rfl 5 (by decide) (hT _ mw_141) (fun _ h9 => h9) rfl (by decide +kernel) rfl rfl (Nat.le_of_ble_eq_true rfl) dX2_clearFor_12 (fun H locs hP hD hS => ?_)
  have hP : va_P (dC, dI) vwCl [((g 70), .inr (2, [.ref (g 71), .ref (g 72), .ref (g 73), .ref (g 74), .int 0, .int 0, .int 0, .int 0, .int 0, .int 0])), ((g 16), .inr (1, [.ref (g 17), .ref (g 18), .ref (g 19), .ref (g 20), .ref (g 21), .ref (g 22), .ref (g 23), .ref (g 24), .ref (g 25), .ref (g 26), .ref (g 27)])), ((g 17), .inl ((a 17), 11, .inl (fun _ => 0)))] H := hP
  have hD : va_D A [((g 70), .inr (2, [.ref (g 71), .ref (g 72), .ref (g 73), .ref (g 74), .int 0, .int 0, .int 0, .int 0, .int 0, .int 0])), ((g 16), .inr (1, [.ref (g 17), .ref (g 18), .ref (g 19), .ref (g 20), .ref (g 21), .ref (g 22), .ref (g 23), .ref (g 24), .ref (g 25), .ref (g 26), .ref (g 27)])), ((g 17), .inl ((a 17), 11, .inl (fun _ => 0)))] := hD
  refine lv_aload_n hx hb dX2_clearFor_15 rfl (lv_at hl 0 rfl) ?_
  refine lv_aload_n hx hb dX2_clearFor_16 rfl (lv_at hl 1 rfl) ?_
  refine va_get (D := (dC, dI)) (ci := 1) (v := .ref (g 17)) (C := RX1) (T := TX1) (N := 11) hx hb hT inT1 hown hK hP 1 rfl rfl 0 (by decide) (hT _ mw_140) (fun _ h9 => h9) rfl dX2_clearFor_17 ?_
  refine lv_iconst (v := 2) hx hb dX2_clearFor_20 (by decide) ?_
  refine va_iald hx hb hK hP 2 0 rfl rfl (by unfold vp_in; decide) dX2_clearFor_21 ?_
  refine t_i 0 rfl ?_
  refine va_put (D := (dC, dI)) (ci := 2) (v := .int 0) (ty := .int) (C := RX2) (T := TX2) (N := 10) hx hb hT inT2 tyX2 tyX2_ok nmX2 hown hK hP hD hS 0 rfl rfl 6 (by decide) (hT _ mw_142) (fun _ h9 => h9) rfl (by decide +kernel) rfl rfl (Nat.le_of_ble_eq_true rfl) dX2_clearFor_22 (fun H locs hP hD hS => ?_)
  have hP : va_P (dC, dI) vwCl [((g 70), .inr (2, [.ref (g 71), .ref (g 72), .ref (g 73), .ref (g 74), .int 0, .int 0, .int 0, .int 0, .int 0, .int 0])), ((g 16), .inr (1, [.ref (g 17), .ref (g 18), .ref (g 19), .ref (g 20), .ref (g 21), .ref (g 22), .ref (g 23), .ref (g 24), .ref (g 25), .ref (g 26), .ref (g 27)])), ((g 17), .inl ((a 17), 11, .inl (fun _ => 0)))] H := hP
  have hD : va_D A [((g 70), .inr (2, [.ref (g 71), .ref (g 72), .ref (g 73), .ref (g 74), .int 0, .int 0, .int 0, .int 0, .int 0, .int 0])), ((g 16), .inr (1, [.ref (g 17), .ref (g 18), .ref (g 19), .ref (g 20), .ref (g 21), .ref (g 22), .ref (g 23), .ref (g 24), .ref (g 25), .ref (g 26), .ref (g 27)])), ((g 17), .inl ((a 17), 11, .inl (fun _ => 0)))] := hD
  refine lv_aload_n hx hb dX2_clearFor_25 rfl (lv_at hl 0 rfl) ?_
  refine lv_aload_n hx hb dX2_clearFor_26 rfl (lv_at hl 1 rfl) ?_
  refine va_get (D := (dC, dI)) (ci := 1) (v := .ref (g 17)) (C := RX1) (T := TX1) (N := 11) hx hb hT inT1 hown hK hP 1 rfl rfl 0 (by decide) (hT _ mw_140) (fun _ h9 => h9) rfl dX2_clearFor_27 ?_
  refine lv_iconst (v := 3) hx hb dX2_clearFor_30 (by decide) ?_
  refine va_iald hx hb hK hP 2 0 rfl rfl (by unfold vp_in; decide) dX2_clearFor_31 ?_
  refine t_i 0 rfl ?_
  refine va_put (D := (dC, dI)) (ci := 2) (v := .int 0) (ty := .int) (C := RX2) (T := TX2) (N := 10) hx hb hT inT2 tyX2 tyX2_ok nmX2 hown hK hP hD hS 0 rfl rfl 7 (by decide) (hT _ mw_143) (fun _ h9 => h9) rfl (by decide +kernel) rfl rfl (Nat.le_of_ble_eq_true rfl) dX2_clearFor_32 (fun H locs hP hD hS => ?_)
  have hP : va_P (dC, dI) vwCl [((g 70), .inr (2, [.ref (g 71), .ref (g 72), .ref (g 73), .ref (g 74), .int 0, .int 0, .int 0, .int 0, .int 0, .int 0])), ((g 16), .inr (1, [.ref (g 17), .ref (g 18), .ref (g 19), .ref (g 20), .ref (g 21), .ref (g 22), .ref (g 23), .ref (g 24), .ref (g 25), .ref (g 26), .ref (g 27)])), ((g 17), .inl ((a 17), 11, .inl (fun _ => 0)))] H := hP
  have hD : va_D A [((g 70), .inr (2, [.ref (g 71), .ref (g 72), .ref (g 73), .ref (g 74), .int 0, .int 0, .int 0, .int 0, .int 0, .int 0])), ((g 16), .inr (1, [.ref (g 17), .ref (g 18), .ref (g 19), .ref (g 20), .ref (g 21), .ref (g 22), .ref (g 23), .ref (g 24), .ref (g 25), .ref (g 26), .ref (g 27)])), ((g 17), .inl ((a 17), 11, .inl (fun _ => 0)))] := hD
  exact e_v hx hb hr hlocks hP hD hS (fun _ => 0) [0, 1, 2] rfl rfl dX2_clearFor_35
set_option maxRecDepth 100000 in
set_option maxHeartbeats 4000000 in
theorem k_X8_lineAsNow (l : Launch) (dC : Nat → ClassId) (dI : Nat → Nat → Nat) (g : Nat → Nat) (a : Nat → ClassId)   : MV l dC dI yX8_lineAsNow (Cond.code yX8_lineAsNow cX8_lineAsNow 2 none) ({ frames := 1, cells := 0, slots := 0, locals := 21 }) [.ref (g 0)] [((a 17), .int)] [((g 0), .inr (8, [.ref (g 1), .ref (g 2), .ref (g 4), .ref (g 16), .ref (g 64), .ref (g 65), .ref (g 66), .ref (g 70), .ref (g 75), .ref (g 87), .ref (g 94), .int 0, .int 0, .int 0])), ((g 70), .inr (2, [.ref (g 71), .ref (g 72), .ref (g 73), .ref (g 74), .int 0, .int 0, .int 0, .int 0, .int 0, .int 0])), ((g 16), .inr (1, [.ref (g 17), .ref (g 18), .ref (g 19), .ref (g 20), .ref (g 21), .ref (g 22), .ref (g 23), .ref (g 24), .ref (g 25), .ref (g 26), .ref (g 27)])), ((g 17), .inl ((a 17), 11, .inl (fun _ => 0)))] (fun f => [((g 0), .inr (8, [.ref (g 1), .ref (g 2), .ref (g 4), .ref (g 16), .ref (g 64), .ref (g 65), .ref (g 66), .ref (g 70), .ref (g 75), .ref (g 87), .ref (g 94), .int 0, .int 0, .int 0])), ((g 70), .inr (2, [.ref (g 71), .ref (g 72), .ref (g 73), .ref (g 74), .int 0, .int 0, .int 0, .int 0, .int 0, .int 0])), ((g 16), .inr (1, [.ref (g 17), .ref (g 18), .ref (g 19), .ref (g 20), .ref (g 21), .ref (g 22), .ref (g 23), .ref (g 24), .ref (g 25), .ref (g 26), .ref (g 27)])), ((g 17), .inl ((a 17), 11, .inl (fun _ => 0)))]) := by
  refine m_of (Qc := fun A => QV dC dI A (fun f => [((g 0), .inr (8, [.ref (g 1), .ref (g 2), .ref (g 4), .ref (g 16), .ref (g 64), .ref (g 65), .ref (g 66), .ref (g 70), .ref (g 75), .ref (g 87), .ref (g 94), .int 0, .int 0, .int 0])), ((g 70), .inr (2, [.ref (g 71), .ref (g 72), .ref (g 73), .ref (g 74), .int 0, .int 0, .int 0, .int 0, .int 0, .int 0])), ((g 16), .inr (1, [.ref (g 17), .ref (g 18), .ref (g 19), .ref (g 20), .ref (g 21), .ref (g 22), .ref (g 23), .ref (g 24), .ref (g 25), .ref (g 26), .ref (g 27)])), ((g 17), .inl ((a 17), 11, .inl (fun _ => 0)))])) (lv := [(0, .ref (g 0))]) (by decide) (Nat.le_of_ble_eq_true rfl) rfl ?_
  intro p e s m below meth c A ls hx hb hr hml hT hown hlocks hname hP hK hD hS hA hl
  have hown : s.vm.findClass RX8 = some m.cls := hown
  refine lv_aload_n hx hb dX8_lineAsNow_0 rfl (lv_at hl 0 rfl) ?_
  refine va_get (D := (dC, dI)) (ci := 8) (v := .ref (g 70)) (C := RX8) (T := TX8) (N := 14) hx hb hT inT8 hown hK hP 0 rfl rfl 7 (by decide) (hT _ mw_138) (fun _ h9 => h9) rfl dX8_lineAsNow_1 ?_
  refine lv_aload_n hx hb dX8_lineAsNow_4 rfl (lv_at hl 0 rfl) ?_
  refine va_get (D := (dC, dI)) (ci := 8) (v := .ref (g 16)) (C := RX8) (T := TX8) (N := 14) hx hb hT inT8 hown hK hP 0 rfl rfl 3 (by decide) (hT _ mw_45) (fun _ h9 => h9) rfl dX8_lineAsNow_5 ?_
  refine c_Vv (C := RX2) (As := [.ref (g 16)]) (rest := []) (wr := [((g 0), .inr (8, [.ref (g 1), .ref (g 2), .ref (g 4), .ref (g 16), .ref (g 64), .ref (g 65), .ref (g 66), .ref (g 70), .ref (g 75), .ref (g 87), .ref (g 94), .int 0, .int 0, .int 0]))]) (n := 1) ⟨hx, hb, hml, hown, hT⟩ (k_X2_clearFor l dC dI g a ) hK hP hD hS hA [0] rfl [1, 2, 3] [0] rfl rfl rfl rfl (by decide) rfl rfl mw_144 mw_145 mw_146 mw_147 mw_148 (by decide +kernel) ⟨Nat.le_of_ble_eq_true rfl, Nat.le_of_ble_eq_true rfl⟩ ⟨rfl, rfl⟩ rfl hl.1 (Nat.le_of_ble_eq_true rfl) rfl dX8_lineAsNow_8 ⟨Nat.zero_le _, Nat.zero_le _⟩ (fun f1 H locs hP hD hS => ?_)
  have hP : va_P (dC, dI) vwCl [((g 0), .inr (8, [.ref (g 1), .ref (g 2), .ref (g 4), .ref (g 16), .ref (g 64), .ref (g 65), .ref (g 66), .ref (g 70), .ref (g 75), .ref (g 87), .ref (g 94), .int 0, .int 0, .int 0])), ((g 70), .inr (2, [.ref (g 71), .ref (g 72), .ref (g 73), .ref (g 74), .int 0, .int 0, .int 0, .int 0, .int 0, .int 0])), ((g 16), .inr (1, [.ref (g 17), .ref (g 18), .ref (g 19), .ref (g 20), .ref (g 21), .ref (g 22), .ref (g 23), .ref (g 24), .ref (g 25), .ref (g 26), .ref (g 27)])), ((g 17), .inl ((a 17), 11, .inl (fun _ => 0)))] H := hP
  have hD : va_D A [((g 0), .inr (8, [.ref (g 1), .ref (g 2), .ref (g 4), .ref (g 16), .ref (g 64), .ref (g 65), .ref (g 66), .ref (g 70), .ref (g 75), .ref (g 87), .ref (g 94), .int 0, .int 0, .int 0])), ((g 70), .inr (2, [.ref (g 71), .ref (g 72), .ref (g 73), .ref (g 74), .int 0, .int 0, .int 0, .int 0, .int 0, .int 0])), ((g 16), .inr (1, [.ref (g 17), .ref (g 18), .ref (g 19), .ref (g 20), .ref (g 21), .ref (g 22), .ref (g 23), .ref (g 24), .ref (g 25), .ref (g 26), .ref (g 27)])), ((g 17), .inl ((a 17), 11, .inl (fun _ => 0)))] := hD
  refine lv_iconst (v := 0) hx hb dX8_lineAsNow_11 (by decide) ?_
  refine lv_istore_n (lv' := [(1, .int 0), (0, .ref (g 0))]) hx hb dX8_lineAsNow_12 rfl hl (by decide) rfl (fun ls hl => ?_)
  refine lv_iload_n hx hb dX8_lineAsNow_13 rfl (lv_at hl 0 rfl) ?_
  refine lv_aload_n hx hb dX8_lineAsNow_14 rfl (lv_at hl 1 rfl) ?_
  refine va_get (D := (dC, dI)) (ci := 8) (v := .ref (g 16)) (C := RX8) (T := TX8) (N := 14) hx hb hT inT8 hown hK hP 0 rfl rfl 3 (by decide) (hT _ mw_45) (fun _ h9 => h9) rfl dX8_lineAsNow_15 ?_
  refine va_get (D := (dC, dI)) (ci := 1) (v := .ref (g 17)) (C := RX1) (T := TX1) (N := 11) hx hb hT inT1 hown hK hP 2 rfl rfl 0 (by decide) (hT _ mw_76) (fun _ h9 => h9) rfl dX8_lineAsNow_18 ?_
  refine lv_iconst (v := 5) hx hb dX8_lineAsNow_21 (by decide) ?_
  refine va_iald hx hb hK hP 3 0 rfl rfl (by unfold vp_in; decide) dX8_lineAsNow_22 ?_
  refine t_i 0 rfl ?_
  refine lv_icmp_ge (tgt := 44) hx hb dX8_lineAsNow_23 (by decide) (fun c2 => ?_) (fun c2 => ?_)
  · exact e_v hx hb hr hlocks hP hD hS (fun _ => 0) [0, 1, 2, 3] rfl rfl dX8_lineAsNow_44
  · exact absurd c2 (by decide)
set_option maxRecDepth 100000 in
set_option maxHeartbeats 4000000 in
theorem k_X2_loadAt (l : Launch) (dC : Nat → ClassId) (dI : Nat → Nat → Nat) (g : Nat → Nat) (a : Nat → ClassId)   : MI l dC dI yX2_loadAt (Cond.code yX2_loadAt cX2_loadAt 4 (some .int)) ({ frames := 0, cells := 0, slots := 0, locals := 0 }) [.ref (g 70), .int 0] [] [((g 70), .inr (2, [.ref (g 71), .ref (g 72), .ref (g 73), .ref (g 74), .int 0, .int 0, .int 0, .int 0, .int 0, .int 0]))] (fun r : Int32 => r = 0) (fun f => [((g 70), .inr (2, [.ref (g 71), .ref (g 72), .ref (g 73), .ref (g 74), .int 0, .int 0, .int 0, .int 0, .int 0, .int 0]))]) := by
  refine m_of (Qc := fun A => QI dC dI A (fun r : Int32 => r = 0) (fun f => [((g 70), .inr (2, [.ref (g 71), .ref (g 72), .ref (g 73), .ref (g 74), .int 0, .int 0, .int 0, .int 0, .int 0, .int 0]))])) (lv := [(0, .ref (g 70)), (1, .int 0)]) (by decide) (Nat.le_of_ble_eq_true rfl) rfl ?_
  intro p e s m below meth c A ls hx hb hr hml hT hown hlocks hname hP hK hD hS hA hl
  have hown : s.vm.findClass RX2 = some m.cls := hown
  refine lv_aload_n hx hb dX2_loadAt_0 rfl (lv_at hl 0 rfl) ?_
  refine va_get (D := (dC, dI)) (ci := 2) (v := .int 0) (C := RX2) (T := TX2) (N := 10) hx hb hT inT2 hown hK hP 0 rfl rfl 6 (by decide) (hT _ mw_142) (fun _ h9 => h9) rfl dX2_loadAt_1 ?_
  refine lv_istore_n (lv' := [(2, .int 0), (0, .ref (g 70)), (1, .int 0)]) hx hb dX2_loadAt_4 rfl hl (by decide) rfl (fun ls hl => ?_)
  refine lv_iconst (v := 0) hx hb dX2_loadAt_5 (by decide) ?_
  refine lv_istore_n (lv' := [(3, .int 0), (2, .int 0), (0, .ref (g 70)), (1, .int 0)]) hx hb dX2_loadAt_6 rfl hl (by decide) rfl (fun ls hl => ?_)
  refine lv_iload_n hx hb dX2_loadAt_7 rfl (lv_at hl 0 rfl) ?_
  refine lv_iload_n hx hb dX2_loadAt_8 rfl (lv_at hl 3 rfl) ?_
  refine lv_icmp_ge (tgt := 39) hx hb dX2_loadAt_9 (by decide) (fun c1 => ?_) (fun c1 => ?_)
  · refine lv_iload_n hx hb dX2_loadAt_39 rfl (lv_at hl 1 rfl) ?_
    exact e_i hx hb hr hlocks hP hD hS (fun _ => 0) [0] rfl rfl rfl dX2_loadAt_40
  · exact absurd c1 (by decide)
set_option maxRecDepth 100000 in
set_option maxHeartbeats 4000000 in
theorem k_X2_loadAt_2 (l : Launch) (dC : Nat → ClassId) (dI : Nat → Nat → Nat) (g : Nat → Nat) (a : Nat → ClassId)   : MI l dC dI yX2_loadAt (Cond.code yX2_loadAt cX2_loadAt 4 (some .int)) ({ frames := 0, cells := 0, slots := 0, locals := 0 }) [.ref (g 70), .int 1] [] [((g 70), .inr (2, [.ref (g 71), .ref (g 72), .ref (g 73), .ref (g 74), .int 0, .int 0, .int 0, .int 0, .int 0, .int 0]))] (fun r : Int32 => r = 0) (fun f => [((g 70), .inr (2, [.ref (g 71), .ref (g 72), .ref (g 73), .ref (g 74), .int 0, .int 0, .int 0, .int 0, .int 0, .int 0]))]) := by
  refine m_of (Qc := fun A => QI dC dI A (fun r : Int32 => r = 0) (fun f => [((g 70), .inr (2, [.ref (g 71), .ref (g 72), .ref (g 73), .ref (g 74), .int 0, .int 0, .int 0, .int 0, .int 0, .int 0]))])) (lv := [(0, .ref (g 70)), (1, .int 1)]) (by decide) (Nat.le_of_ble_eq_true rfl) rfl ?_
  intro p e s m below meth c A ls hx hb hr hml hT hown hlocks hname hP hK hD hS hA hl
  have hown : s.vm.findClass RX2 = some m.cls := hown
  refine lv_aload_n hx hb dX2_loadAt_0 rfl (lv_at hl 0 rfl) ?_
  refine va_get (D := (dC, dI)) (ci := 2) (v := .int 0) (C := RX2) (T := TX2) (N := 10) hx hb hT inT2 hown hK hP 0 rfl rfl 6 (by decide) (hT _ mw_142) (fun _ h9 => h9) rfl dX2_loadAt_1 ?_
  refine lv_istore_n (lv' := [(2, .int 0), (0, .ref (g 70)), (1, .int 1)]) hx hb dX2_loadAt_4 rfl hl (by decide) rfl (fun ls hl => ?_)
  refine lv_iconst (v := 0) hx hb dX2_loadAt_5 (by decide) ?_
  refine lv_istore_n (lv' := [(3, .int 0), (2, .int 0), (0, .ref (g 70)), (1, .int 1)]) hx hb dX2_loadAt_6 rfl hl (by decide) rfl (fun ls hl => ?_)
  refine lv_iload_n hx hb dX2_loadAt_7 rfl (lv_at hl 0 rfl) ?_
  refine lv_iload_n hx hb dX2_loadAt_8 rfl (lv_at hl 3 rfl) ?_
  refine lv_icmp_ge (tgt := 39) hx hb dX2_loadAt_9 (by decide) (fun c1 => ?_) (fun c1 => ?_)
  · exact absurd c1 (by decide)
  · refine lv_iload_n hx hb dX2_loadAt_12 rfl (lv_at hl 0 rfl) ?_
    refine lv_aload_n hx hb dX2_loadAt_13 rfl (lv_at hl 2 rfl) ?_
    refine va_get (D := (dC, dI)) (ci := 2) (v := .int 0) (C := RX2) (T := TX2) (N := 10) hx hb hT inT2 hown hK hP 0 rfl rfl 4 (by decide) (hT _ mw_139) (fun _ h9 => h9) rfl dX2_loadAt_14 ?_
    refine lv_icmp_ge (tgt := 39) hx hb dX2_loadAt_17 (by decide) (fun c2 => ?_) (fun c2 => ?_)
    · refine lv_iload_n hx hb dX2_loadAt_39 rfl (lv_at hl 1 rfl) ?_
      exact e_i hx hb hr hlocks hP hD hS (fun _ => 0) [0] rfl rfl rfl dX2_loadAt_40
    · exact absurd c2 (by decide)
set_option maxRecDepth 100000 in
set_option maxHeartbeats 4000000 in
theorem k_X2_loadAt_3 (l : Launch) (dC : Nat → ClassId) (dI : Nat → Nat → Nat) (g : Nat → Nat) (a : Nat → ClassId)   : MI l dC dI yX2_loadAt (Cond.code yX2_loadAt cX2_loadAt 4 (some .int)) ({ frames := 0, cells := 0, slots := 0, locals := 0 }) [.ref (g 70), .int 2] [] [((g 70), .inr (2, [.ref (g 71), .ref (g 72), .ref (g 73), .ref (g 74), .int 0, .int 0, .int 0, .int 0, .int 0, .int 0]))] (fun r : Int32 => r = 0) (fun f => [((g 70), .inr (2, [.ref (g 71), .ref (g 72), .ref (g 73), .ref (g 74), .int 0, .int 0, .int 0, .int 0, .int 0, .int 0]))]) := by
  refine m_of (Qc := fun A => QI dC dI A (fun r : Int32 => r = 0) (fun f => [((g 70), .inr (2, [.ref (g 71), .ref (g 72), .ref (g 73), .ref (g 74), .int 0, .int 0, .int 0, .int 0, .int 0, .int 0]))])) (lv := [(0, .ref (g 70)), (1, .int 2)]) (by decide) (Nat.le_of_ble_eq_true rfl) rfl ?_
  intro p e s m below meth c A ls hx hb hr hml hT hown hlocks hname hP hK hD hS hA hl
  have hown : s.vm.findClass RX2 = some m.cls := hown
  refine lv_aload_n hx hb dX2_loadAt_0 rfl (lv_at hl 0 rfl) ?_
  refine va_get (D := (dC, dI)) (ci := 2) (v := .int 0) (C := RX2) (T := TX2) (N := 10) hx hb hT inT2 hown hK hP 0 rfl rfl 6 (by decide) (hT _ mw_142) (fun _ h9 => h9) rfl dX2_loadAt_1 ?_
  refine lv_istore_n (lv' := [(2, .int 0), (0, .ref (g 70)), (1, .int 2)]) hx hb dX2_loadAt_4 rfl hl (by decide) rfl (fun ls hl => ?_)
  refine lv_iconst (v := 0) hx hb dX2_loadAt_5 (by decide) ?_
  refine lv_istore_n (lv' := [(3, .int 0), (2, .int 0), (0, .ref (g 70)), (1, .int 2)]) hx hb dX2_loadAt_6 rfl hl (by decide) rfl (fun ls hl => ?_)
  refine lv_iload_n hx hb dX2_loadAt_7 rfl (lv_at hl 0 rfl) ?_
  refine lv_iload_n hx hb dX2_loadAt_8 rfl (lv_at hl 3 rfl) ?_
  refine lv_icmp_ge (tgt := 39) hx hb dX2_loadAt_9 (by decide) (fun c1 => ?_) (fun c1 => ?_)
  · exact absurd c1 (by decide)
  · refine lv_iload_n hx hb dX2_loadAt_12 rfl (lv_at hl 0 rfl) ?_
    refine lv_aload_n hx hb dX2_loadAt_13 rfl (lv_at hl 2 rfl) ?_
    refine va_get (D := (dC, dI)) (ci := 2) (v := .int 0) (C := RX2) (T := TX2) (N := 10) hx hb hT inT2 hown hK hP 0 rfl rfl 4 (by decide) (hT _ mw_139) (fun _ h9 => h9) rfl dX2_loadAt_14 ?_
    refine lv_icmp_ge (tgt := 39) hx hb dX2_loadAt_17 (by decide) (fun c2 => ?_) (fun c2 => ?_)
    · refine lv_iload_n hx hb dX2_loadAt_39 rfl (lv_at hl 1 rfl) ?_
      exact e_i hx hb hr hlocks hP hD hS (fun _ => 0) [0] rfl rfl rfl dX2_loadAt_40
    · exact absurd c2 (by decide)
set_option maxRecDepth 100000 in
set_option maxHeartbeats 4000000 in
theorem k_X2_loadAt_4 (l : Launch) (dC : Nat → ClassId) (dI : Nat → Nat → Nat) (g : Nat → Nat) (a : Nat → ClassId)   : MI l dC dI yX2_loadAt (Cond.code yX2_loadAt cX2_loadAt 4 (some .int)) ({ frames := 0, cells := 0, slots := 0, locals := 0 }) [.ref (g 70), .int 3] [] [((g 70), .inr (2, [.ref (g 71), .ref (g 72), .ref (g 73), .ref (g 74), .int 0, .int 0, .int 0, .int 0, .int 0, .int 0]))] (fun r : Int32 => r = 0) (fun f => [((g 70), .inr (2, [.ref (g 71), .ref (g 72), .ref (g 73), .ref (g 74), .int 0, .int 0, .int 0, .int 0, .int 0, .int 0]))]) := by
  refine m_of (Qc := fun A => QI dC dI A (fun r : Int32 => r = 0) (fun f => [((g 70), .inr (2, [.ref (g 71), .ref (g 72), .ref (g 73), .ref (g 74), .int 0, .int 0, .int 0, .int 0, .int 0, .int 0]))])) (lv := [(0, .ref (g 70)), (1, .int 3)]) (by decide) (Nat.le_of_ble_eq_true rfl) rfl ?_
  intro p e s m below meth c A ls hx hb hr hml hT hown hlocks hname hP hK hD hS hA hl
  have hown : s.vm.findClass RX2 = some m.cls := hown
  refine lv_aload_n hx hb dX2_loadAt_0 rfl (lv_at hl 0 rfl) ?_
  refine va_get (D := (dC, dI)) (ci := 2) (v := .int 0) (C := RX2) (T := TX2) (N := 10) hx hb hT inT2 hown hK hP 0 rfl rfl 6 (by decide) (hT _ mw_142) (fun _ h9 => h9) rfl dX2_loadAt_1 ?_
  refine lv_istore_n (lv' := [(2, .int 0), (0, .ref (g 70)), (1, .int 3)]) hx hb dX2_loadAt_4 rfl hl (by decide) rfl (fun ls hl => ?_)
  refine lv_iconst (v := 0) hx hb dX2_loadAt_5 (by decide) ?_
  refine lv_istore_n (lv' := [(3, .int 0), (2, .int 0), (0, .ref (g 70)), (1, .int 3)]) hx hb dX2_loadAt_6 rfl hl (by decide) rfl (fun ls hl => ?_)
  refine lv_iload_n hx hb dX2_loadAt_7 rfl (lv_at hl 0 rfl) ?_
  refine lv_iload_n hx hb dX2_loadAt_8 rfl (lv_at hl 3 rfl) ?_
  refine lv_icmp_ge (tgt := 39) hx hb dX2_loadAt_9 (by decide) (fun c1 => ?_) (fun c1 => ?_)
  · exact absurd c1 (by decide)
  · refine lv_iload_n hx hb dX2_loadAt_12 rfl (lv_at hl 0 rfl) ?_
    refine lv_aload_n hx hb dX2_loadAt_13 rfl (lv_at hl 2 rfl) ?_
    refine va_get (D := (dC, dI)) (ci := 2) (v := .int 0) (C := RX2) (T := TX2) (N := 10) hx hb hT inT2 hown hK hP 0 rfl rfl 4 (by decide) (hT _ mw_139) (fun _ h9 => h9) rfl dX2_loadAt_14 ?_
    refine lv_icmp_ge (tgt := 39) hx hb dX2_loadAt_17 (by decide) (fun c2 => ?_) (fun c2 => ?_)
    · refine lv_iload_n hx hb dX2_loadAt_39 rfl (lv_at hl 1 rfl) ?_
      exact e_i hx hb hr hlocks hP hD hS (fun _ => 0) [0] rfl rfl rfl dX2_loadAt_40
    · exact absurd c2 (by decide)
set_option maxRecDepth 100000 in
set_option maxHeartbeats 4000000 in
theorem k_X2_loadAt_5 (l : Launch) (dC : Nat → ClassId) (dI : Nat → Nat → Nat) (g : Nat → Nat) (a : Nat → ClassId)   : MI l dC dI yX2_loadAt (Cond.code yX2_loadAt cX2_loadAt 4 (some .int)) ({ frames := 0, cells := 0, slots := 0, locals := 0 }) [.ref (g 70), .int 4] [] [((g 70), .inr (2, [.ref (g 71), .ref (g 72), .ref (g 73), .ref (g 74), .int 0, .int 0, .int 0, .int 0, .int 0, .int 0]))] (fun r : Int32 => r = 0) (fun f => [((g 70), .inr (2, [.ref (g 71), .ref (g 72), .ref (g 73), .ref (g 74), .int 0, .int 0, .int 0, .int 0, .int 0, .int 0]))]) := by
  refine m_of (Qc := fun A => QI dC dI A (fun r : Int32 => r = 0) (fun f => [((g 70), .inr (2, [.ref (g 71), .ref (g 72), .ref (g 73), .ref (g 74), .int 0, .int 0, .int 0, .int 0, .int 0, .int 0]))])) (lv := [(0, .ref (g 70)), (1, .int 4)]) (by decide) (Nat.le_of_ble_eq_true rfl) rfl ?_
  intro p e s m below meth c A ls hx hb hr hml hT hown hlocks hname hP hK hD hS hA hl
  have hown : s.vm.findClass RX2 = some m.cls := hown
  refine lv_aload_n hx hb dX2_loadAt_0 rfl (lv_at hl 0 rfl) ?_
  refine va_get (D := (dC, dI)) (ci := 2) (v := .int 0) (C := RX2) (T := TX2) (N := 10) hx hb hT inT2 hown hK hP 0 rfl rfl 6 (by decide) (hT _ mw_142) (fun _ h9 => h9) rfl dX2_loadAt_1 ?_
  refine lv_istore_n (lv' := [(2, .int 0), (0, .ref (g 70)), (1, .int 4)]) hx hb dX2_loadAt_4 rfl hl (by decide) rfl (fun ls hl => ?_)
  refine lv_iconst (v := 0) hx hb dX2_loadAt_5 (by decide) ?_
  refine lv_istore_n (lv' := [(3, .int 0), (2, .int 0), (0, .ref (g 70)), (1, .int 4)]) hx hb dX2_loadAt_6 rfl hl (by decide) rfl (fun ls hl => ?_)
  refine lv_iload_n hx hb dX2_loadAt_7 rfl (lv_at hl 0 rfl) ?_
  refine lv_iload_n hx hb dX2_loadAt_8 rfl (lv_at hl 3 rfl) ?_
  refine lv_icmp_ge (tgt := 39) hx hb dX2_loadAt_9 (by decide) (fun c1 => ?_) (fun c1 => ?_)
  · exact absurd c1 (by decide)
  · refine lv_iload_n hx hb dX2_loadAt_12 rfl (lv_at hl 0 rfl) ?_
    refine lv_aload_n hx hb dX2_loadAt_13 rfl (lv_at hl 2 rfl) ?_
    refine va_get (D := (dC, dI)) (ci := 2) (v := .int 0) (C := RX2) (T := TX2) (N := 10) hx hb hT inT2 hown hK hP 0 rfl rfl 4 (by decide) (hT _ mw_139) (fun _ h9 => h9) rfl dX2_loadAt_14 ?_
    refine lv_icmp_ge (tgt := 39) hx hb dX2_loadAt_17 (by decide) (fun c2 => ?_) (fun c2 => ?_)
    · refine lv_iload_n hx hb dX2_loadAt_39 rfl (lv_at hl 1 rfl) ?_
      exact e_i hx hb hr hlocks hP hD hS (fun _ => 0) [0] rfl rfl rfl dX2_loadAt_40
    · exact absurd c2 (by decide)
set_option maxRecDepth 100000 in
set_option maxHeartbeats 4000000 in
theorem k_X2_loadAt_6 (l : Launch) (dC : Nat → ClassId) (dI : Nat → Nat → Nat) (g : Nat → Nat) (a : Nat → ClassId)   : MI l dC dI yX2_loadAt (Cond.code yX2_loadAt cX2_loadAt 4 (some .int)) ({ frames := 0, cells := 0, slots := 0, locals := 0 }) [.ref (g 70), .int 5] [] [((g 70), .inr (2, [.ref (g 71), .ref (g 72), .ref (g 73), .ref (g 74), .int 0, .int 0, .int 0, .int 0, .int 0, .int 0]))] (fun r : Int32 => r = 0) (fun f => [((g 70), .inr (2, [.ref (g 71), .ref (g 72), .ref (g 73), .ref (g 74), .int 0, .int 0, .int 0, .int 0, .int 0, .int 0]))]) := by
  refine m_of (Qc := fun A => QI dC dI A (fun r : Int32 => r = 0) (fun f => [((g 70), .inr (2, [.ref (g 71), .ref (g 72), .ref (g 73), .ref (g 74), .int 0, .int 0, .int 0, .int 0, .int 0, .int 0]))])) (lv := [(0, .ref (g 70)), (1, .int 5)]) (by decide) (Nat.le_of_ble_eq_true rfl) rfl ?_
  intro p e s m below meth c A ls hx hb hr hml hT hown hlocks hname hP hK hD hS hA hl
  have hown : s.vm.findClass RX2 = some m.cls := hown
  refine lv_aload_n hx hb dX2_loadAt_0 rfl (lv_at hl 0 rfl) ?_
  refine va_get (D := (dC, dI)) (ci := 2) (v := .int 0) (C := RX2) (T := TX2) (N := 10) hx hb hT inT2 hown hK hP 0 rfl rfl 6 (by decide) (hT _ mw_142) (fun _ h9 => h9) rfl dX2_loadAt_1 ?_
  refine lv_istore_n (lv' := [(2, .int 0), (0, .ref (g 70)), (1, .int 5)]) hx hb dX2_loadAt_4 rfl hl (by decide) rfl (fun ls hl => ?_)
  refine lv_iconst (v := 0) hx hb dX2_loadAt_5 (by decide) ?_
  refine lv_istore_n (lv' := [(3, .int 0), (2, .int 0), (0, .ref (g 70)), (1, .int 5)]) hx hb dX2_loadAt_6 rfl hl (by decide) rfl (fun ls hl => ?_)
  refine lv_iload_n hx hb dX2_loadAt_7 rfl (lv_at hl 0 rfl) ?_
  refine lv_iload_n hx hb dX2_loadAt_8 rfl (lv_at hl 3 rfl) ?_
  refine lv_icmp_ge (tgt := 39) hx hb dX2_loadAt_9 (by decide) (fun c1 => ?_) (fun c1 => ?_)
  · exact absurd c1 (by decide)
  · refine lv_iload_n hx hb dX2_loadAt_12 rfl (lv_at hl 0 rfl) ?_
    refine lv_aload_n hx hb dX2_loadAt_13 rfl (lv_at hl 2 rfl) ?_
    refine va_get (D := (dC, dI)) (ci := 2) (v := .int 0) (C := RX2) (T := TX2) (N := 10) hx hb hT inT2 hown hK hP 0 rfl rfl 4 (by decide) (hT _ mw_139) (fun _ h9 => h9) rfl dX2_loadAt_14 ?_
    refine lv_icmp_ge (tgt := 39) hx hb dX2_loadAt_17 (by decide) (fun c2 => ?_) (fun c2 => ?_)
    · refine lv_iload_n hx hb dX2_loadAt_39 rfl (lv_at hl 1 rfl) ?_
      exact e_i hx hb hr hlocks hP hD hS (fun _ => 0) [0] rfl rfl rfl dX2_loadAt_40
    · exact absurd c2 (by decide)
set_option maxRecDepth 100000 in
set_option maxHeartbeats 4000000 in
theorem k_X2_loadAt_7 (l : Launch) (dC : Nat → ClassId) (dI : Nat → Nat → Nat) (g : Nat → Nat) (a : Nat → ClassId)   : MI l dC dI yX2_loadAt (Cond.code yX2_loadAt cX2_loadAt 4 (some .int)) ({ frames := 0, cells := 0, slots := 0, locals := 0 }) [.ref (g 70), .int 6] [] [((g 70), .inr (2, [.ref (g 71), .ref (g 72), .ref (g 73), .ref (g 74), .int 0, .int 0, .int 0, .int 0, .int 0, .int 0]))] (fun r : Int32 => r = 0) (fun f => [((g 70), .inr (2, [.ref (g 71), .ref (g 72), .ref (g 73), .ref (g 74), .int 0, .int 0, .int 0, .int 0, .int 0, .int 0]))]) := by
  refine m_of (Qc := fun A => QI dC dI A (fun r : Int32 => r = 0) (fun f => [((g 70), .inr (2, [.ref (g 71), .ref (g 72), .ref (g 73), .ref (g 74), .int 0, .int 0, .int 0, .int 0, .int 0, .int 0]))])) (lv := [(0, .ref (g 70)), (1, .int 6)]) (by decide) (Nat.le_of_ble_eq_true rfl) rfl ?_
  intro p e s m below meth c A ls hx hb hr hml hT hown hlocks hname hP hK hD hS hA hl
  have hown : s.vm.findClass RX2 = some m.cls := hown
  refine lv_aload_n hx hb dX2_loadAt_0 rfl (lv_at hl 0 rfl) ?_
  refine va_get (D := (dC, dI)) (ci := 2) (v := .int 0) (C := RX2) (T := TX2) (N := 10) hx hb hT inT2 hown hK hP 0 rfl rfl 6 (by decide) (hT _ mw_142) (fun _ h9 => h9) rfl dX2_loadAt_1 ?_
  refine lv_istore_n (lv' := [(2, .int 0), (0, .ref (g 70)), (1, .int 6)]) hx hb dX2_loadAt_4 rfl hl (by decide) rfl (fun ls hl => ?_)
  refine lv_iconst (v := 0) hx hb dX2_loadAt_5 (by decide) ?_
  refine lv_istore_n (lv' := [(3, .int 0), (2, .int 0), (0, .ref (g 70)), (1, .int 6)]) hx hb dX2_loadAt_6 rfl hl (by decide) rfl (fun ls hl => ?_)
  refine lv_iload_n hx hb dX2_loadAt_7 rfl (lv_at hl 0 rfl) ?_
  refine lv_iload_n hx hb dX2_loadAt_8 rfl (lv_at hl 3 rfl) ?_
  refine lv_icmp_ge (tgt := 39) hx hb dX2_loadAt_9 (by decide) (fun c1 => ?_) (fun c1 => ?_)
  · exact absurd c1 (by decide)
  · refine lv_iload_n hx hb dX2_loadAt_12 rfl (lv_at hl 0 rfl) ?_
    refine lv_aload_n hx hb dX2_loadAt_13 rfl (lv_at hl 2 rfl) ?_
    refine va_get (D := (dC, dI)) (ci := 2) (v := .int 0) (C := RX2) (T := TX2) (N := 10) hx hb hT inT2 hown hK hP 0 rfl rfl 4 (by decide) (hT _ mw_139) (fun _ h9 => h9) rfl dX2_loadAt_14 ?_
    refine lv_icmp_ge (tgt := 39) hx hb dX2_loadAt_17 (by decide) (fun c2 => ?_) (fun c2 => ?_)
    · refine lv_iload_n hx hb dX2_loadAt_39 rfl (lv_at hl 1 rfl) ?_
      exact e_i hx hb hr hlocks hP hD hS (fun _ => 0) [0] rfl rfl rfl dX2_loadAt_40
    · exact absurd c2 (by decide)
set_option maxRecDepth 100000 in
set_option maxHeartbeats 4000000 in
theorem k_X2_poured (l : Launch) (dC : Nat → ClassId) (dI : Nat → Nat → Nat) (g : Nat → Nat) (a : Nat → ClassId)   : MI l dC dI yX2_poured (Cond.code yX2_poured cX2_poured 1 (some .int)) ({ frames := 1, cells := 0, slots := 0, locals := 23 }) [.ref (g 70)] [] [((g 70), .inr (2, [.ref (g 71), .ref (g 72), .ref (g 73), .ref (g 74), .int 0, .int 0, .int 0, .int 0, .int 0, .int 0]))] (fun r : Int32 => r = 0) (fun f => [((g 70), .inr (2, [.ref (g 71), .ref (g 72), .ref (g 73), .ref (g 74), .int 0, .int 0, .int 0, .int 0, .int 0, .int 0]))]) := by
  refine m_of (Qc := fun A => QI dC dI A (fun r : Int32 => r = 0) (fun f => [((g 70), .inr (2, [.ref (g 71), .ref (g 72), .ref (g 73), .ref (g 74), .int 0, .int 0, .int 0, .int 0, .int 0, .int 0]))])) (lv := [(0, .ref (g 70))]) (by decide) (Nat.le_of_ble_eq_true rfl) rfl ?_
  intro p e s m below meth c A ls hx hb hr hml hT hown hlocks hname hP hK hD hS hA hl
  have hown : s.vm.findClass RX2 = some m.cls := hown
  refine lv_aload_n hx hb dX2_poured_0 rfl (lv_at hl 0 rfl) ?_
  refine lv_aload_n hx hb dX2_poured_1 rfl (lv_at hl 0 rfl) ?_
  refine va_get (D := (dC, dI)) (ci := 2) (v := .int 0) (C := RX2) (T := TX2) (N := 10) hx hb hT inT2 hown hK hP 0 rfl rfl 4 (by decide) (hT _ mw_139) (fun _ h9 => h9) rfl dX2_poured_2 ?_
  refine c_Vi (C := RX2) (As := [.int 0]) (rest := []) (wr := []) (n := 1) ⟨hx, hb, hml, hown, hT⟩ (k_X2_loadAt l dC dI g a ) hK hP hD hS hA [] rfl [0] [] rfl rfl rfl rfl (by decide) rfl rfl mw_159 mw_156 mw_157 mw_147 mw_158 (by decide +kernel) ⟨Nat.le_of_ble_eq_true rfl, Nat.le_of_ble_eq_true rfl⟩ ⟨rfl, rfl⟩ rfl hl.1 (Nat.le_of_ble_eq_true rfl) rfl dX2_poured_5 ⟨Nat.zero_le _, Nat.zero_le _⟩ (fun r f1 H locs er hP hD hS => ?_)
  have hP : va_P (dC, dI) vwCl [((g 70), .inr (2, [.ref (g 71), .ref (g 72), .ref (g 73), .ref (g 74), .int 0, .int 0, .int 0, .int 0, .int 0, .int 0]))] H := hP
  have hD : va_D A [((g 70), .inr (2, [.ref (g 71), .ref (g 72), .ref (g 73), .ref (g 74), .int 0, .int 0, .int 0, .int 0, .int 0, .int 0]))] := hD
  have er : r = 0 := er
  subst er
  exact e_i hx hb hr hlocks hP hD hS (fun _ => 0) [0] rfl rfl rfl dX2_poured_8
set_option maxRecDepth 100000 in
set_option maxHeartbeats 4000000 in
theorem k_X2_begin (l : Launch) (dC : Nat → ClassId) (dI : Nat → Nat → Nat) (g : Nat → Nat) (a : Nat → ClassId)   : MV l dC dI yX2_begin (Cond.code yX2_begin cX2_begin 2 none) ({ frames := 0, cells := 0, slots := 0, locals := 0 }) [.ref (g 70)] [((a 74), .int)] [((g 70), .inr (2, [.ref (g 71), .ref (g 72), .ref (g 73), .ref (g 74), .int 0, .int 0, .int 0, .int 0, .int 0, .int 0])), ((g 74), .inl ((a 74), 6, .inl (fun _ => 0)))] (fun f => [((g 70), .inr (2, [.ref (g 71), .ref (g 72), .ref (g 73), .ref (g 74), .int 0, .int 0, .int 0, .int 0, .int 0, .int 0])), ((g 74), .inl ((a 74), 6, .inl (fun _ => 0)))]) := by
  refine m_of (Qc := fun A => QV dC dI A (fun f => [((g 70), .inr (2, [.ref (g 71), .ref (g 72), .ref (g 73), .ref (g 74), .int 0, .int 0, .int 0, .int 0, .int 0, .int 0])), ((g 74), .inl ((a 74), 6, .inl (fun _ => 0)))])) (lv := [(0, .ref (g 70))]) (by decide) (Nat.le_of_ble_eq_true rfl) rfl ?_
  intro p e s m below meth c A ls hx hb hr hml hT hown hlocks hname hP hK hD hS hA hl
  have hown : s.vm.findClass RX2 = some m.cls := hown
  refine lv_iconst (v := 0) hx hb dX2_begin_0 (by decide) ?_
  refine lv_istore_n (lv' := [(1, .int 0), (0, .ref (g 70))]) hx hb dX2_begin_1 rfl hl (by decide) rfl (fun ls hl => ?_)
  refine lv_iload_n hx hb dX2_begin_2 rfl (lv_at hl 0 rfl) ?_
  refine lv_bipush (v := 6) hx hb dX2_begin_3 (by decide) ?_
  refine lv_icmp_ge (tgt := 21) hx hb dX2_begin_5 (by decide) (fun c1 => ?_) (fun c1 => ?_)
  · exact absurd c1 (by decide)
  · refine lv_aload_n hx hb dX2_begin_8 rfl (lv_at hl 1 rfl) ?_
    refine va_get (D := (dC, dI)) (ci := 2) (v := .ref (g 74)) (C := RX2) (T := TX2) (N := 10) hx hb hT inT2 hown hK hP 0 rfl rfl 3 (by decide) (hT _ mw_166) (fun _ h9 => h9) rfl dX2_begin_9 ?_
    refine lv_iload_n hx hb dX2_begin_12 rfl (lv_at hl 0 rfl) ?_
    refine lv_iconst (v := 0) hx hb dX2_begin_13 (by decide) ?_
    refine va_iast hx hb hK hP hD hS 1 0 rfl rfl (by unfold vp_in; decide) dX2_begin_14 (fun H locs hP hD hS => ?_)
    have hP : va_P (dC, dI) vwCl [((g 70), .inr (2, [.ref (g 71), .ref (g 72), .ref (g 73), .ref (g 74), .int 0, .int 0, .int 0, .int 0, .int 0, .int 0])), ((g 74), .inl ((a 74), 6, .inl (upd (fun _ => 0) (0 : Int32).toNatClampNeg 0)))] H := hP
    have hD : va_D A [((g 70), .inr (2, [.ref (g 71), .ref (g 72), .ref (g 73), .ref (g 74), .int 0, .int 0, .int 0, .int 0, .int 0, .int 0])), ((g 74), .inl ((a 74), 6, .inl (upd (fun _ => 0) (0 : Int32).toNatClampNeg 0)))] := hD
    rw [u_z] at hP hD
    refine lv_iinc (v := 1) (lv' := [(1, .int 1), (0, .ref (g 70))]) hx hb dX2_begin_15 hl (k := 0) rfl (by decide) (by decide) rfl (fun ls hl => ?_)
    refine lv_goto (tgt := 2) hx hb dX2_begin_18 (by decide) ?_
    refine lv_iload_n hx hb dX2_begin_2 rfl (lv_at hl 0 rfl) ?_
    refine lv_bipush (v := 6) hx hb dX2_begin_3 (by decide) ?_
    refine lv_icmp_ge (tgt := 21) hx hb dX2_begin_5 (by decide) (fun c2 => ?_) (fun c2 => ?_)
    · exact absurd c2 (by decide)
    · refine lv_aload_n hx hb dX2_begin_8 rfl (lv_at hl 1 rfl) ?_
      refine va_get (D := (dC, dI)) (ci := 2) (v := .ref (g 74)) (C := RX2) (T := TX2) (N := 10) hx hb hT inT2 hown hK hP 0 rfl rfl 3 (by decide) (hT _ mw_166) (fun _ h9 => h9) rfl dX2_begin_9 ?_
      refine lv_iload_n hx hb dX2_begin_12 rfl (lv_at hl 0 rfl) ?_
      refine lv_iconst (v := 0) hx hb dX2_begin_13 (by decide) ?_
      refine va_iast hx hb hK hP hD hS 1 0 rfl rfl (by unfold vp_in; decide) dX2_begin_14 (fun H locs hP hD hS => ?_)
      have hP : va_P (dC, dI) vwCl [((g 70), .inr (2, [.ref (g 71), .ref (g 72), .ref (g 73), .ref (g 74), .int 0, .int 0, .int 0, .int 0, .int 0, .int 0])), ((g 74), .inl ((a 74), 6, .inl (upd (fun _ => 0) (1 : Int32).toNatClampNeg 0)))] H := hP
      have hD : va_D A [((g 70), .inr (2, [.ref (g 71), .ref (g 72), .ref (g 73), .ref (g 74), .int 0, .int 0, .int 0, .int 0, .int 0, .int 0])), ((g 74), .inl ((a 74), 6, .inl (upd (fun _ => 0) (1 : Int32).toNatClampNeg 0)))] := hD
      rw [u_z] at hP hD
      refine lv_iinc (v := 2) (lv' := [(1, .int 2), (0, .ref (g 70))]) hx hb dX2_begin_15 hl (k := 0) rfl (by decide) (by decide) rfl (fun ls hl => ?_)
      refine lv_goto (tgt := 2) hx hb dX2_begin_18 (by decide) ?_
      refine lv_iload_n hx hb dX2_begin_2 rfl (lv_at hl 0 rfl) ?_
      refine lv_bipush (v := 6) hx hb dX2_begin_3 (by decide) ?_
      refine lv_icmp_ge (tgt := 21) hx hb dX2_begin_5 (by decide) (fun c3 => ?_) (fun c3 => ?_)
      · exact absurd c3 (by decide)
      · refine lv_aload_n hx hb dX2_begin_8 rfl (lv_at hl 1 rfl) ?_
        refine va_get (D := (dC, dI)) (ci := 2) (v := .ref (g 74)) (C := RX2) (T := TX2) (N := 10) hx hb hT inT2 hown hK hP 0 rfl rfl 3 (by decide) (hT _ mw_166) (fun _ h9 => h9) rfl dX2_begin_9 ?_
        refine lv_iload_n hx hb dX2_begin_12 rfl (lv_at hl 0 rfl) ?_
        refine lv_iconst (v := 0) hx hb dX2_begin_13 (by decide) ?_
        refine va_iast hx hb hK hP hD hS 1 0 rfl rfl (by unfold vp_in; decide) dX2_begin_14 (fun H locs hP hD hS => ?_)
        have hP : va_P (dC, dI) vwCl [((g 70), .inr (2, [.ref (g 71), .ref (g 72), .ref (g 73), .ref (g 74), .int 0, .int 0, .int 0, .int 0, .int 0, .int 0])), ((g 74), .inl ((a 74), 6, .inl (upd (fun _ => 0) (2 : Int32).toNatClampNeg 0)))] H := hP
        have hD : va_D A [((g 70), .inr (2, [.ref (g 71), .ref (g 72), .ref (g 73), .ref (g 74), .int 0, .int 0, .int 0, .int 0, .int 0, .int 0])), ((g 74), .inl ((a 74), 6, .inl (upd (fun _ => 0) (2 : Int32).toNatClampNeg 0)))] := hD
        rw [u_z] at hP hD
        refine lv_iinc (v := 3) (lv' := [(1, .int 3), (0, .ref (g 70))]) hx hb dX2_begin_15 hl (k := 0) rfl (by decide) (by decide) rfl (fun ls hl => ?_)
        refine lv_goto (tgt := 2) hx hb dX2_begin_18 (by decide) ?_
        refine lv_iload_n hx hb dX2_begin_2 rfl (lv_at hl 0 rfl) ?_
        refine lv_bipush (v := 6) hx hb dX2_begin_3 (by decide) ?_
        refine lv_icmp_ge (tgt := 21) hx hb dX2_begin_5 (by decide) (fun c4 => ?_) (fun c4 => ?_)
        · exact absurd c4 (by decide)
        · refine lv_aload_n hx hb dX2_begin_8 rfl (lv_at hl 1 rfl) ?_
          refine va_get (D := (dC, dI)) (ci := 2) (v := .ref (g 74)) (C := RX2) (T := TX2) (N := 10) hx hb hT inT2 hown hK hP 0 rfl rfl 3 (by decide) (hT _ mw_166) (fun _ h9 => h9) rfl dX2_begin_9 ?_
          refine lv_iload_n hx hb dX2_begin_12 rfl (lv_at hl 0 rfl) ?_
          refine lv_iconst (v := 0) hx hb dX2_begin_13 (by decide) ?_
          refine va_iast hx hb hK hP hD hS 1 0 rfl rfl (by unfold vp_in; decide) dX2_begin_14 (fun H locs hP hD hS => ?_)
          have hP : va_P (dC, dI) vwCl [((g 70), .inr (2, [.ref (g 71), .ref (g 72), .ref (g 73), .ref (g 74), .int 0, .int 0, .int 0, .int 0, .int 0, .int 0])), ((g 74), .inl ((a 74), 6, .inl (upd (fun _ => 0) (3 : Int32).toNatClampNeg 0)))] H := hP
          have hD : va_D A [((g 70), .inr (2, [.ref (g 71), .ref (g 72), .ref (g 73), .ref (g 74), .int 0, .int 0, .int 0, .int 0, .int 0, .int 0])), ((g 74), .inl ((a 74), 6, .inl (upd (fun _ => 0) (3 : Int32).toNatClampNeg 0)))] := hD
          rw [u_z] at hP hD
          refine lv_iinc (v := 4) (lv' := [(1, .int 4), (0, .ref (g 70))]) hx hb dX2_begin_15 hl (k := 0) rfl (by decide) (by decide) rfl (fun ls hl => ?_)
          refine lv_goto (tgt := 2) hx hb dX2_begin_18 (by decide) ?_
          refine lv_iload_n hx hb dX2_begin_2 rfl (lv_at hl 0 rfl) ?_
          refine lv_bipush (v := 6) hx hb dX2_begin_3 (by decide) ?_
          refine lv_icmp_ge (tgt := 21) hx hb dX2_begin_5 (by decide) (fun c5 => ?_) (fun c5 => ?_)
          · exact absurd c5 (by decide)
          · refine lv_aload_n hx hb dX2_begin_8 rfl (lv_at hl 1 rfl) ?_
            refine va_get (D := (dC, dI)) (ci := 2) (v := .ref (g 74)) (C := RX2) (T := TX2) (N := 10) hx hb hT inT2 hown hK hP 0 rfl rfl 3 (by decide) (hT _ mw_166) (fun _ h9 => h9) rfl dX2_begin_9 ?_
            refine lv_iload_n hx hb dX2_begin_12 rfl (lv_at hl 0 rfl) ?_
            refine lv_iconst (v := 0) hx hb dX2_begin_13 (by decide) ?_
            refine va_iast hx hb hK hP hD hS 1 0 rfl rfl (by unfold vp_in; decide) dX2_begin_14 (fun H locs hP hD hS => ?_)
            have hP : va_P (dC, dI) vwCl [((g 70), .inr (2, [.ref (g 71), .ref (g 72), .ref (g 73), .ref (g 74), .int 0, .int 0, .int 0, .int 0, .int 0, .int 0])), ((g 74), .inl ((a 74), 6, .inl (upd (fun _ => 0) (4 : Int32).toNatClampNeg 0)))] H := hP
            have hD : va_D A [((g 70), .inr (2, [.ref (g 71), .ref (g 72), .ref (g 73), .ref (g 74), .int 0, .int 0, .int 0, .int 0, .int 0, .int 0])), ((g 74), .inl ((a 74), 6, .inl (upd (fun _ => 0) (4 : Int32).toNatClampNeg 0)))] := hD
            rw [u_z] at hP hD
            refine lv_iinc (v := 5) (lv' := [(1, .int 5), (0, .ref (g 70))]) hx hb dX2_begin_15 hl (k := 0) rfl (by decide) (by decide) rfl (fun ls hl => ?_)
            refine lv_goto (tgt := 2) hx hb dX2_begin_18 (by decide) ?_
            refine lv_iload_n hx hb dX2_begin_2 rfl (lv_at hl 0 rfl) ?_
            refine lv_bipush (v := 6) hx hb dX2_begin_3 (by decide) ?_
            refine lv_icmp_ge (tgt := 21) hx hb dX2_begin_5 (by decide) (fun c6 => ?_) (fun c6 => ?_)
            · exact absurd c6 (by decide)
            · refine lv_aload_n hx hb dX2_begin_8 rfl (lv_at hl 1 rfl) ?_
              refine va_get (D := (dC, dI)) (ci := 2) (v := .ref (g 74)) (C := RX2) (T := TX2) (N := 10) hx hb hT inT2 hown hK hP 0 rfl rfl 3 (by decide) (hT _ mw_166) (fun _ h9 => h9) rfl dX2_begin_9 ?_
              refine lv_iload_n hx hb dX2_begin_12 rfl (lv_at hl 0 rfl) ?_
              refine lv_iconst (v := 0) hx hb dX2_begin_13 (by decide) ?_
              refine va_iast hx hb hK hP hD hS 1 0 rfl rfl (by unfold vp_in; decide) dX2_begin_14 (fun H locs hP hD hS => ?_)
              have hP : va_P (dC, dI) vwCl [((g 70), .inr (2, [.ref (g 71), .ref (g 72), .ref (g 73), .ref (g 74), .int 0, .int 0, .int 0, .int 0, .int 0, .int 0])), ((g 74), .inl ((a 74), 6, .inl (upd (fun _ => 0) (5 : Int32).toNatClampNeg 0)))] H := hP
              have hD : va_D A [((g 70), .inr (2, [.ref (g 71), .ref (g 72), .ref (g 73), .ref (g 74), .int 0, .int 0, .int 0, .int 0, .int 0, .int 0])), ((g 74), .inl ((a 74), 6, .inl (upd (fun _ => 0) (5 : Int32).toNatClampNeg 0)))] := hD
              rw [u_z] at hP hD
              refine lv_iinc (v := 6) (lv' := [(1, .int 6), (0, .ref (g 70))]) hx hb dX2_begin_15 hl (k := 0) rfl (by decide) (by decide) rfl (fun ls hl => ?_)
              refine lv_goto (tgt := 2) hx hb dX2_begin_18 (by decide) ?_
              refine lv_iload_n hx hb dX2_begin_2 rfl (lv_at hl 0 rfl) ?_
              refine lv_bipush (v := 6) hx hb dX2_begin_3 (by decide) ?_
              refine lv_icmp_ge (tgt := 21) hx hb dX2_begin_5 (by decide) (fun c7 => ?_) (fun c7 => ?_)
              · refine lv_aload_n hx hb dX2_begin_21 rfl (lv_at hl 1 rfl) ?_
                refine lv_aload_n hx hb dX2_begin_22 rfl (lv_at hl 1 rfl) ?_
                refine va_get (D := (dC, dI)) (ci := 2) (v := .int 0) (C := RX2) (T := TX2) (N := 10) hx hb hT inT2 hown hK hP 0 rfl rfl 5 (by decide) (hT _ mw_141) (fun _ h9 => h9) rfl dX2_begin_23 ?_
                refine va_put (D := (dC, dI)) (ci := 2) (v := .int 0) (ty := .int) (C := RX2) (T := TX2) (N := 10) hx hb hT inT2 tyX2 tyX2_ok nmX2 hown hK hP hD hS 0 rfl rfl 8 (by decide) (hT _ mw_167) (fun _ h9 => h9) rfl (by decide +kernel) rfl rfl (Nat.le_of_ble_eq_true rfl) dX2_begin_26 (fun H locs hP hD hS => ?_)
                have hP : va_P (dC, dI) vwCl [((g 70), .inr (2, [.ref (g 71), .ref (g 72), .ref (g 73), .ref (g 74), .int 0, .int 0, .int 0, .int 0, .int 0, .int 0])), ((g 74), .inl ((a 74), 6, .inl (fun _ => 0)))] H := hP
                have hD : va_D A [((g 70), .inr (2, [.ref (g 71), .ref (g 72), .ref (g 73), .ref (g 74), .int 0, .int 0, .int 0, .int 0, .int 0, .int 0])), ((g 74), .inl ((a 74), 6, .inl (fun _ => 0)))] := hD
                refine lv_aload_n hx hb dX2_begin_29 rfl (lv_at hl 1 rfl) ?_
                refine lv_iconst (v := 0) hx hb dX2_begin_30 (by decide) ?_
                refine va_put (D := (dC, dI)) (ci := 2) (v := .int 0) (ty := .int) (C := RX2) (T := TX2) (N := 10) hx hb hT inT2 tyX2 tyX2_ok nmX2 hown hK hP hD hS 0 rfl rfl 9 (by decide) (hT _ mw_168) (fun _ h9 => h9) rfl (by decide +kernel) rfl rfl (Nat.le_of_ble_eq_true rfl) dX2_begin_31 (fun H locs hP hD hS => ?_)
                have hP : va_P (dC, dI) vwCl [((g 70), .inr (2, [.ref (g 71), .ref (g 72), .ref (g 73), .ref (g 74), .int 0, .int 0, .int 0, .int 0, .int 0, .int 0])), ((g 74), .inl ((a 74), 6, .inl (fun _ => 0)))] H := hP
                have hD : va_D A [((g 70), .inr (2, [.ref (g 71), .ref (g 72), .ref (g 73), .ref (g 74), .int 0, .int 0, .int 0, .int 0, .int 0, .int 0])), ((g 74), .inl ((a 74), 6, .inl (fun _ => 0)))] := hD
                exact e_v hx hb hr hlocks hP hD hS (fun _ => 0) [0, 1] rfl rfl dX2_begin_34
              · exact absurd c7 (by decide)
set_option maxRecDepth 100000 in
set_option maxHeartbeats 4000000 in
theorem k_X6_tell (l : Launch) (dC : Nat → ClassId) (dI : Nat → Nat → Nat) (g : Nat → Nat) (a : Nat → ClassId)   : MV l dC dI yX6_tell (Cond.code yX6_tell cX6_tell 5 none) ({ frames := 2, cells := 0, slots := 0, locals := 43 }) [.ref (g 75), .ref (g 16), .ref (g 70)] [((a 86), .int), ((a 74), .int), ((a 17), .int)] [((g 75), .inr (6, [.ref (g 76), .ref (g 77), .ref (g 78), .ref (g 79), .ref (g 80), .ref (g 81), .ref (g 82), .ref (g 83), .ref (g 84), .ref (g 85), .ref (g 86), .long 0, .int 0])), ((g 70), .inr (2, [.ref (g 71), .ref (g 72), .ref (g 73), .ref (g 74), .int 0, .int 0, .int 0, .int 0, .int 0, .int 0])), ((g 86), .inl ((a 86), 7, .inl (fun _ => 0))), ((g 74), .inl ((a 74), 6, .inl (fun _ => 0))), ((g 16), .inr (1, [.ref (g 17), .ref (g 18), .ref (g 19), .ref (g 20), .ref (g 21), .ref (g 22), .ref (g 23), .ref (g 24), .ref (g 25), .ref (g 26), .ref (g 27)])), ((g 17), .inl ((a 17), 11, .inl (fun _ => 0)))] (fun f => [((g 75), .inr (6, [.ref (g 76), .ref (g 77), .ref (g 78), .ref (g 79), .ref (g 80), .ref (g 81), .ref (g 82), .ref (g 83), .ref (g 84), .ref (g 85), .ref (g 86), .long 0, .int 0])), ((g 70), .inr (2, [.ref (g 71), .ref (g 72), .ref (g 73), .ref (g 74), .int 0, .int 0, .int 0, .int 0, .int 0, .int 0])), ((g 86), .inl ((a 86), 7, .inl (fun _ => 0))), ((g 74), .inl ((a 74), 6, .inl (fun _ => 0))), ((g 16), .inr (1, [.ref (g 17), .ref (g 18), .ref (g 19), .ref (g 20), .ref (g 21), .ref (g 22), .ref (g 23), .ref (g 24), .ref (g 25), .ref (g 26), .ref (g 27)])), ((g 17), .inl ((a 17), 11, .inl (fun _ => 0)))]) := by
  refine m_of (Qc := fun A => QV dC dI A (fun f => [((g 75), .inr (6, [.ref (g 76), .ref (g 77), .ref (g 78), .ref (g 79), .ref (g 80), .ref (g 81), .ref (g 82), .ref (g 83), .ref (g 84), .ref (g 85), .ref (g 86), .long 0, .int 0])), ((g 70), .inr (2, [.ref (g 71), .ref (g 72), .ref (g 73), .ref (g 74), .int 0, .int 0, .int 0, .int 0, .int 0, .int 0])), ((g 86), .inl ((a 86), 7, .inl (fun _ => 0))), ((g 74), .inl ((a 74), 6, .inl (fun _ => 0))), ((g 16), .inr (1, [.ref (g 17), .ref (g 18), .ref (g 19), .ref (g 20), .ref (g 21), .ref (g 22), .ref (g 23), .ref (g 24), .ref (g 25), .ref (g 26), .ref (g 27)])), ((g 17), .inl ((a 17), 11, .inl (fun _ => 0)))])) (lv := [(0, .ref (g 75)), (1, .ref (g 16)), (2, .ref (g 70))]) (by decide) (Nat.le_of_ble_eq_true rfl) rfl ?_
  intro p e s m below meth c A ls hx hb hr hml hT hown hlocks hname hP hK hD hS hA hl
  have hown : s.vm.findClass RX6 = some m.cls := hown
  refine lv_iconst (v := 0) hx hb dX6_tell_0 (by decide) ?_
  refine lv_istore_n (lv' := [(3, .int 0), (0, .ref (g 75)), (1, .ref (g 16)), (2, .ref (g 70))]) hx hb dX6_tell_1 rfl hl (by decide) rfl (fun ls hl => ?_)
  refine lv_iload_n hx hb dX6_tell_2 rfl (lv_at hl 0 rfl) ?_
  refine lv_bipush (v := 6) hx hb dX6_tell_3 (by decide) ?_
  refine lv_icmp_gt (tgt := 25) hx hb dX6_tell_5 (by decide) (fun c1 => ?_) (fun c1 => ?_)
  · exact absurd c1 (by decide)
  · refine lv_aload_n hx hb dX6_tell_8 rfl (lv_at hl 1 rfl) ?_
    refine va_get (D := (dC, dI)) (ci := 6) (v := .ref (g 86)) (C := RX6) (T := TX6) (N := 13) hx hb hT inT6 hown hK hP 0 rfl rfl 10 (by decide) (hT _ mw_154) (fun _ h9 => h9) rfl dX6_tell_9 ?_
    refine lv_iload_n hx hb dX6_tell_12 rfl (lv_at hl 0 rfl) ?_
    refine lv_aload_n hx hb dX6_tell_13 rfl (lv_at hl 3 rfl) ?_
    refine lv_iload_n hx hb dX6_tell_14 rfl (lv_at hl 0 rfl) ?_
    refine c_Vi (C := RX2) (As := [.int 0]) (rest := [.int 0, .ref (g 86)]) (wr := [((g 75), .inr (6, [.ref (g 76), .ref (g 77), .ref (g 78), .ref (g 79), .ref (g 80), .ref (g 81), .ref (g 82), .ref (g 83), .ref (g 84), .ref (g 85), .ref (g 86), .long 0, .int 0])), ((g 86), .inl ((a 86), 7, .inl (fun _ => 0))), ((g 74), .inl ((a 74), 6, .inl (fun _ => 0))), ((g 16), .inr (1, [.ref (g 17), .ref (g 18), .ref (g 19), .ref (g 20), .ref (g 21), .ref (g 22), .ref (g 23), .ref (g 24), .ref (g 25), .ref (g 26), .ref (g 27)])), ((g 17), .inl ((a 17), 11, .inl (fun _ => 0)))]) (n := 1) ⟨hx, hb, hml, hown, hT⟩ (k_X2_loadAt l dC dI g a ) hK hP hD hS hA [] rfl [1] [0, 2, 3, 4, 5] rfl rfl rfl rfl (by decide) rfl rfl mw_155 mw_156 mw_157 mw_147 mw_158 (by decide +kernel) ⟨Nat.le_of_ble_eq_true rfl, Nat.le_of_ble_eq_true rfl⟩ ⟨rfl, rfl⟩ rfl hl.1 (Nat.le_of_ble_eq_true rfl) rfl dX6_tell_15 ⟨Nat.zero_le _, Nat.zero_le _⟩ (fun r f2 H locs er hP hD hS => ?_)
    have hP : va_P (dC, dI) vwCl [((g 75), .inr (6, [.ref (g 76), .ref (g 77), .ref (g 78), .ref (g 79), .ref (g 80), .ref (g 81), .ref (g 82), .ref (g 83), .ref (g 84), .ref (g 85), .ref (g 86), .long 0, .int 0])), ((g 86), .inl ((a 86), 7, .inl (fun _ => 0))), ((g 74), .inl ((a 74), 6, .inl (fun _ => 0))), ((g 16), .inr (1, [.ref (g 17), .ref (g 18), .ref (g 19), .ref (g 20), .ref (g 21), .ref (g 22), .ref (g 23), .ref (g 24), .ref (g 25), .ref (g 26), .ref (g 27)])), ((g 17), .inl ((a 17), 11, .inl (fun _ => 0))), ((g 70), .inr (2, [.ref (g 71), .ref (g 72), .ref (g 73), .ref (g 74), .int 0, .int 0, .int 0, .int 0, .int 0, .int 0]))] H := hP
    have hD : va_D A [((g 75), .inr (6, [.ref (g 76), .ref (g 77), .ref (g 78), .ref (g 79), .ref (g 80), .ref (g 81), .ref (g 82), .ref (g 83), .ref (g 84), .ref (g 85), .ref (g 86), .long 0, .int 0])), ((g 86), .inl ((a 86), 7, .inl (fun _ => 0))), ((g 74), .inl ((a 74), 6, .inl (fun _ => 0))), ((g 16), .inr (1, [.ref (g 17), .ref (g 18), .ref (g 19), .ref (g 20), .ref (g 21), .ref (g 22), .ref (g 23), .ref (g 24), .ref (g 25), .ref (g 26), .ref (g 27)])), ((g 17), .inl ((a 17), 11, .inl (fun _ => 0))), ((g 70), .inr (2, [.ref (g 71), .ref (g 72), .ref (g 73), .ref (g 74), .int 0, .int 0, .int 0, .int 0, .int 0, .int 0]))] := hD
    have er : r = 0 := er
    subst er
    refine va_iast hx hb hK hP hD hS 1 0 rfl rfl (by unfold vp_in; decide) dX6_tell_18 (fun H locs hP hD hS => ?_)
    have hP : va_P (dC, dI) vwCl [((g 75), .inr (6, [.ref (g 76), .ref (g 77), .ref (g 78), .ref (g 79), .ref (g 80), .ref (g 81), .ref (g 82), .ref (g 83), .ref (g 84), .ref (g 85), .ref (g 86), .long 0, .int 0])), ((g 86), .inl ((a 86), 7, .inl (upd (fun _ => 0) (0 : Int32).toNatClampNeg 0))), ((g 74), .inl ((a 74), 6, .inl (fun _ => 0))), ((g 16), .inr (1, [.ref (g 17), .ref (g 18), .ref (g 19), .ref (g 20), .ref (g 21), .ref (g 22), .ref (g 23), .ref (g 24), .ref (g 25), .ref (g 26), .ref (g 27)])), ((g 17), .inl ((a 17), 11, .inl (fun _ => 0))), ((g 70), .inr (2, [.ref (g 71), .ref (g 72), .ref (g 73), .ref (g 74), .int 0, .int 0, .int 0, .int 0, .int 0, .int 0]))] H := hP
    have hD : va_D A [((g 75), .inr (6, [.ref (g 76), .ref (g 77), .ref (g 78), .ref (g 79), .ref (g 80), .ref (g 81), .ref (g 82), .ref (g 83), .ref (g 84), .ref (g 85), .ref (g 86), .long 0, .int 0])), ((g 86), .inl ((a 86), 7, .inl (upd (fun _ => 0) (0 : Int32).toNatClampNeg 0))), ((g 74), .inl ((a 74), 6, .inl (fun _ => 0))), ((g 16), .inr (1, [.ref (g 17), .ref (g 18), .ref (g 19), .ref (g 20), .ref (g 21), .ref (g 22), .ref (g 23), .ref (g 24), .ref (g 25), .ref (g 26), .ref (g 27)])), ((g 17), .inl ((a 17), 11, .inl (fun _ => 0))), ((g 70), .inr (2, [.ref (g 71), .ref (g 72), .ref (g 73), .ref (g 74), .int 0, .int 0, .int 0, .int 0, .int 0, .int 0]))] := hD
    rw [u_z] at hP hD
    refine lv_iinc (v := 1) (lv' := [(3, .int 1), (0, .ref (g 75)), (1, .ref (g 16)), (2, .ref (g 70))]) hx hb dX6_tell_19 hl (k := 0) rfl (by decide) (by decide) rfl (fun ls hl => ?_)
    refine lv_goto (tgt := 2) hx hb dX6_tell_22 (by decide) ?_
    refine lv_iload_n hx hb dX6_tell_2 rfl (lv_at hl 0 rfl) ?_
    refine lv_bipush (v := 6) hx hb dX6_tell_3 (by decide) ?_
    refine lv_icmp_gt (tgt := 25) hx hb dX6_tell_5 (by decide) (fun c3 => ?_) (fun c3 => ?_)
    · exact absurd c3 (by decide)
    · refine lv_aload_n hx hb dX6_tell_8 rfl (lv_at hl 1 rfl) ?_
      refine va_get (D := (dC, dI)) (ci := 6) (v := .ref (g 86)) (C := RX6) (T := TX6) (N := 13) hx hb hT inT6 hown hK hP 0 rfl rfl 10 (by decide) (hT _ mw_154) (fun _ h9 => h9) rfl dX6_tell_9 ?_
      refine lv_iload_n hx hb dX6_tell_12 rfl (lv_at hl 0 rfl) ?_
      refine lv_aload_n hx hb dX6_tell_13 rfl (lv_at hl 3 rfl) ?_
      refine lv_iload_n hx hb dX6_tell_14 rfl (lv_at hl 0 rfl) ?_
      refine c_Vi (C := RX2) (As := [.int 1]) (rest := [.int 1, .ref (g 86)]) (wr := [((g 75), .inr (6, [.ref (g 76), .ref (g 77), .ref (g 78), .ref (g 79), .ref (g 80), .ref (g 81), .ref (g 82), .ref (g 83), .ref (g 84), .ref (g 85), .ref (g 86), .long 0, .int 0])), ((g 86), .inl ((a 86), 7, .inl (fun _ => 0))), ((g 74), .inl ((a 74), 6, .inl (fun _ => 0))), ((g 16), .inr (1, [.ref (g 17), .ref (g 18), .ref (g 19), .ref (g 20), .ref (g 21), .ref (g 22), .ref (g 23), .ref (g 24), .ref (g 25), .ref (g 26), .ref (g 27)])), ((g 17), .inl ((a 17), 11, .inl (fun _ => 0)))]) (n := 1) ⟨hx, hb, hml, hown, hT⟩ (k_X2_loadAt_2 l dC dI g a ) hK hP hD hS hA [] rfl [5] [0, 1, 2, 3, 4] rfl rfl rfl rfl (by decide) rfl rfl mw_155 mw_156 mw_157 mw_147 mw_158 (by decide +kernel) ⟨Nat.le_of_ble_eq_true rfl, Nat.le_of_ble_eq_true rfl⟩ ⟨rfl, rfl⟩ rfl hl.1 (Nat.le_of_ble_eq_true rfl) rfl dX6_tell_15 ⟨Nat.zero_le _, Nat.zero_le _⟩ (fun r f4 H locs er hP hD hS => ?_)
      have hP : va_P (dC, dI) vwCl [((g 75), .inr (6, [.ref (g 76), .ref (g 77), .ref (g 78), .ref (g 79), .ref (g 80), .ref (g 81), .ref (g 82), .ref (g 83), .ref (g 84), .ref (g 85), .ref (g 86), .long 0, .int 0])), ((g 86), .inl ((a 86), 7, .inl (fun _ => 0))), ((g 74), .inl ((a 74), 6, .inl (fun _ => 0))), ((g 16), .inr (1, [.ref (g 17), .ref (g 18), .ref (g 19), .ref (g 20), .ref (g 21), .ref (g 22), .ref (g 23), .ref (g 24), .ref (g 25), .ref (g 26), .ref (g 27)])), ((g 17), .inl ((a 17), 11, .inl (fun _ => 0))), ((g 70), .inr (2, [.ref (g 71), .ref (g 72), .ref (g 73), .ref (g 74), .int 0, .int 0, .int 0, .int 0, .int 0, .int 0]))] H := hP
      have hD : va_D A [((g 75), .inr (6, [.ref (g 76), .ref (g 77), .ref (g 78), .ref (g 79), .ref (g 80), .ref (g 81), .ref (g 82), .ref (g 83), .ref (g 84), .ref (g 85), .ref (g 86), .long 0, .int 0])), ((g 86), .inl ((a 86), 7, .inl (fun _ => 0))), ((g 74), .inl ((a 74), 6, .inl (fun _ => 0))), ((g 16), .inr (1, [.ref (g 17), .ref (g 18), .ref (g 19), .ref (g 20), .ref (g 21), .ref (g 22), .ref (g 23), .ref (g 24), .ref (g 25), .ref (g 26), .ref (g 27)])), ((g 17), .inl ((a 17), 11, .inl (fun _ => 0))), ((g 70), .inr (2, [.ref (g 71), .ref (g 72), .ref (g 73), .ref (g 74), .int 0, .int 0, .int 0, .int 0, .int 0, .int 0]))] := hD
      have er : r = 0 := er
      subst er
      refine va_iast hx hb hK hP hD hS 1 0 rfl rfl (by unfold vp_in; decide) dX6_tell_18 (fun H locs hP hD hS => ?_)
      have hP : va_P (dC, dI) vwCl [((g 75), .inr (6, [.ref (g 76), .ref (g 77), .ref (g 78), .ref (g 79), .ref (g 80), .ref (g 81), .ref (g 82), .ref (g 83), .ref (g 84), .ref (g 85), .ref (g 86), .long 0, .int 0])), ((g 86), .inl ((a 86), 7, .inl (upd (fun _ => 0) (1 : Int32).toNatClampNeg 0))), ((g 74), .inl ((a 74), 6, .inl (fun _ => 0))), ((g 16), .inr (1, [.ref (g 17), .ref (g 18), .ref (g 19), .ref (g 20), .ref (g 21), .ref (g 22), .ref (g 23), .ref (g 24), .ref (g 25), .ref (g 26), .ref (g 27)])), ((g 17), .inl ((a 17), 11, .inl (fun _ => 0))), ((g 70), .inr (2, [.ref (g 71), .ref (g 72), .ref (g 73), .ref (g 74), .int 0, .int 0, .int 0, .int 0, .int 0, .int 0]))] H := hP
      have hD : va_D A [((g 75), .inr (6, [.ref (g 76), .ref (g 77), .ref (g 78), .ref (g 79), .ref (g 80), .ref (g 81), .ref (g 82), .ref (g 83), .ref (g 84), .ref (g 85), .ref (g 86), .long 0, .int 0])), ((g 86), .inl ((a 86), 7, .inl (upd (fun _ => 0) (1 : Int32).toNatClampNeg 0))), ((g 74), .inl ((a 74), 6, .inl (fun _ => 0))), ((g 16), .inr (1, [.ref (g 17), .ref (g 18), .ref (g 19), .ref (g 20), .ref (g 21), .ref (g 22), .ref (g 23), .ref (g 24), .ref (g 25), .ref (g 26), .ref (g 27)])), ((g 17), .inl ((a 17), 11, .inl (fun _ => 0))), ((g 70), .inr (2, [.ref (g 71), .ref (g 72), .ref (g 73), .ref (g 74), .int 0, .int 0, .int 0, .int 0, .int 0, .int 0]))] := hD
      rw [u_z] at hP hD
      refine lv_iinc (v := 2) (lv' := [(3, .int 2), (0, .ref (g 75)), (1, .ref (g 16)), (2, .ref (g 70))]) hx hb dX6_tell_19 hl (k := 0) rfl (by decide) (by decide) rfl (fun ls hl => ?_)
      refine lv_goto (tgt := 2) hx hb dX6_tell_22 (by decide) ?_
      refine lv_iload_n hx hb dX6_tell_2 rfl (lv_at hl 0 rfl) ?_
      refine lv_bipush (v := 6) hx hb dX6_tell_3 (by decide) ?_
      refine lv_icmp_gt (tgt := 25) hx hb dX6_tell_5 (by decide) (fun c5 => ?_) (fun c5 => ?_)
      · exact absurd c5 (by decide)
      · refine lv_aload_n hx hb dX6_tell_8 rfl (lv_at hl 1 rfl) ?_
        refine va_get (D := (dC, dI)) (ci := 6) (v := .ref (g 86)) (C := RX6) (T := TX6) (N := 13) hx hb hT inT6 hown hK hP 0 rfl rfl 10 (by decide) (hT _ mw_154) (fun _ h9 => h9) rfl dX6_tell_9 ?_
        refine lv_iload_n hx hb dX6_tell_12 rfl (lv_at hl 0 rfl) ?_
        refine lv_aload_n hx hb dX6_tell_13 rfl (lv_at hl 3 rfl) ?_
        refine lv_iload_n hx hb dX6_tell_14 rfl (lv_at hl 0 rfl) ?_
        refine c_Vi (C := RX2) (As := [.int 2]) (rest := [.int 2, .ref (g 86)]) (wr := [((g 75), .inr (6, [.ref (g 76), .ref (g 77), .ref (g 78), .ref (g 79), .ref (g 80), .ref (g 81), .ref (g 82), .ref (g 83), .ref (g 84), .ref (g 85), .ref (g 86), .long 0, .int 0])), ((g 86), .inl ((a 86), 7, .inl (fun _ => 0))), ((g 74), .inl ((a 74), 6, .inl (fun _ => 0))), ((g 16), .inr (1, [.ref (g 17), .ref (g 18), .ref (g 19), .ref (g 20), .ref (g 21), .ref (g 22), .ref (g 23), .ref (g 24), .ref (g 25), .ref (g 26), .ref (g 27)])), ((g 17), .inl ((a 17), 11, .inl (fun _ => 0)))]) (n := 1) ⟨hx, hb, hml, hown, hT⟩ (k_X2_loadAt_3 l dC dI g a ) hK hP hD hS hA [] rfl [5] [0, 1, 2, 3, 4] rfl rfl rfl rfl (by decide) rfl rfl mw_155 mw_156 mw_157 mw_147 mw_158 (by decide +kernel) ⟨Nat.le_of_ble_eq_true rfl, Nat.le_of_ble_eq_true rfl⟩ ⟨rfl, rfl⟩ rfl hl.1 (Nat.le_of_ble_eq_true rfl) rfl dX6_tell_15 ⟨Nat.zero_le _, Nat.zero_le _⟩ (fun r f6 H locs er hP hD hS => ?_)
        have hP : va_P (dC, dI) vwCl [((g 75), .inr (6, [.ref (g 76), .ref (g 77), .ref (g 78), .ref (g 79), .ref (g 80), .ref (g 81), .ref (g 82), .ref (g 83), .ref (g 84), .ref (g 85), .ref (g 86), .long 0, .int 0])), ((g 86), .inl ((a 86), 7, .inl (fun _ => 0))), ((g 74), .inl ((a 74), 6, .inl (fun _ => 0))), ((g 16), .inr (1, [.ref (g 17), .ref (g 18), .ref (g 19), .ref (g 20), .ref (g 21), .ref (g 22), .ref (g 23), .ref (g 24), .ref (g 25), .ref (g 26), .ref (g 27)])), ((g 17), .inl ((a 17), 11, .inl (fun _ => 0))), ((g 70), .inr (2, [.ref (g 71), .ref (g 72), .ref (g 73), .ref (g 74), .int 0, .int 0, .int 0, .int 0, .int 0, .int 0]))] H := hP
        have hD : va_D A [((g 75), .inr (6, [.ref (g 76), .ref (g 77), .ref (g 78), .ref (g 79), .ref (g 80), .ref (g 81), .ref (g 82), .ref (g 83), .ref (g 84), .ref (g 85), .ref (g 86), .long 0, .int 0])), ((g 86), .inl ((a 86), 7, .inl (fun _ => 0))), ((g 74), .inl ((a 74), 6, .inl (fun _ => 0))), ((g 16), .inr (1, [.ref (g 17), .ref (g 18), .ref (g 19), .ref (g 20), .ref (g 21), .ref (g 22), .ref (g 23), .ref (g 24), .ref (g 25), .ref (g 26), .ref (g 27)])), ((g 17), .inl ((a 17), 11, .inl (fun _ => 0))), ((g 70), .inr (2, [.ref (g 71), .ref (g 72), .ref (g 73), .ref (g 74), .int 0, .int 0, .int 0, .int 0, .int 0, .int 0]))] := hD
        have er : r = 0 := er
        subst er
        refine va_iast hx hb hK hP hD hS 1 0 rfl rfl (by unfold vp_in; decide) dX6_tell_18 (fun H locs hP hD hS => ?_)
        have hP : va_P (dC, dI) vwCl [((g 75), .inr (6, [.ref (g 76), .ref (g 77), .ref (g 78), .ref (g 79), .ref (g 80), .ref (g 81), .ref (g 82), .ref (g 83), .ref (g 84), .ref (g 85), .ref (g 86), .long 0, .int 0])), ((g 86), .inl ((a 86), 7, .inl (upd (fun _ => 0) (2 : Int32).toNatClampNeg 0))), ((g 74), .inl ((a 74), 6, .inl (fun _ => 0))), ((g 16), .inr (1, [.ref (g 17), .ref (g 18), .ref (g 19), .ref (g 20), .ref (g 21), .ref (g 22), .ref (g 23), .ref (g 24), .ref (g 25), .ref (g 26), .ref (g 27)])), ((g 17), .inl ((a 17), 11, .inl (fun _ => 0))), ((g 70), .inr (2, [.ref (g 71), .ref (g 72), .ref (g 73), .ref (g 74), .int 0, .int 0, .int 0, .int 0, .int 0, .int 0]))] H := hP
        have hD : va_D A [((g 75), .inr (6, [.ref (g 76), .ref (g 77), .ref (g 78), .ref (g 79), .ref (g 80), .ref (g 81), .ref (g 82), .ref (g 83), .ref (g 84), .ref (g 85), .ref (g 86), .long 0, .int 0])), ((g 86), .inl ((a 86), 7, .inl (upd (fun _ => 0) (2 : Int32).toNatClampNeg 0))), ((g 74), .inl ((a 74), 6, .inl (fun _ => 0))), ((g 16), .inr (1, [.ref (g 17), .ref (g 18), .ref (g 19), .ref (g 20), .ref (g 21), .ref (g 22), .ref (g 23), .ref (g 24), .ref (g 25), .ref (g 26), .ref (g 27)])), ((g 17), .inl ((a 17), 11, .inl (fun _ => 0))), ((g 70), .inr (2, [.ref (g 71), .ref (g 72), .ref (g 73), .ref (g 74), .int 0, .int 0, .int 0, .int 0, .int 0, .int 0]))] := hD
        rw [u_z] at hP hD
        refine lv_iinc (v := 3) (lv' := [(3, .int 3), (0, .ref (g 75)), (1, .ref (g 16)), (2, .ref (g 70))]) hx hb dX6_tell_19 hl (k := 0) rfl (by decide) (by decide) rfl (fun ls hl => ?_)
        refine lv_goto (tgt := 2) hx hb dX6_tell_22 (by decide) ?_
        refine lv_iload_n hx hb dX6_tell_2 rfl (lv_at hl 0 rfl) ?_
        refine lv_bipush (v := 6) hx hb dX6_tell_3 (by decide) ?_
        refine lv_icmp_gt (tgt := 25) hx hb dX6_tell_5 (by decide) (fun c7 => ?_) (fun c7 => ?_)
        · exact absurd c7 (by decide)
        · refine lv_aload_n hx hb dX6_tell_8 rfl (lv_at hl 1 rfl) ?_
          refine va_get (D := (dC, dI)) (ci := 6) (v := .ref (g 86)) (C := RX6) (T := TX6) (N := 13) hx hb hT inT6 hown hK hP 0 rfl rfl 10 (by decide) (hT _ mw_154) (fun _ h9 => h9) rfl dX6_tell_9 ?_
          refine lv_iload_n hx hb dX6_tell_12 rfl (lv_at hl 0 rfl) ?_
          refine lv_aload_n hx hb dX6_tell_13 rfl (lv_at hl 3 rfl) ?_
          refine lv_iload_n hx hb dX6_tell_14 rfl (lv_at hl 0 rfl) ?_
          refine c_Vi (C := RX2) (As := [.int 3]) (rest := [.int 3, .ref (g 86)]) (wr := [((g 75), .inr (6, [.ref (g 76), .ref (g 77), .ref (g 78), .ref (g 79), .ref (g 80), .ref (g 81), .ref (g 82), .ref (g 83), .ref (g 84), .ref (g 85), .ref (g 86), .long 0, .int 0])), ((g 86), .inl ((a 86), 7, .inl (fun _ => 0))), ((g 74), .inl ((a 74), 6, .inl (fun _ => 0))), ((g 16), .inr (1, [.ref (g 17), .ref (g 18), .ref (g 19), .ref (g 20), .ref (g 21), .ref (g 22), .ref (g 23), .ref (g 24), .ref (g 25), .ref (g 26), .ref (g 27)])), ((g 17), .inl ((a 17), 11, .inl (fun _ => 0)))]) (n := 1) ⟨hx, hb, hml, hown, hT⟩ (k_X2_loadAt_4 l dC dI g a ) hK hP hD hS hA [] rfl [5] [0, 1, 2, 3, 4] rfl rfl rfl rfl (by decide) rfl rfl mw_155 mw_156 mw_157 mw_147 mw_158 (by decide +kernel) ⟨Nat.le_of_ble_eq_true rfl, Nat.le_of_ble_eq_true rfl⟩ ⟨rfl, rfl⟩ rfl hl.1 (Nat.le_of_ble_eq_true rfl) rfl dX6_tell_15 ⟨Nat.zero_le _, Nat.zero_le _⟩ (fun r f8 H locs er hP hD hS => ?_)
          have hP : va_P (dC, dI) vwCl [((g 75), .inr (6, [.ref (g 76), .ref (g 77), .ref (g 78), .ref (g 79), .ref (g 80), .ref (g 81), .ref (g 82), .ref (g 83), .ref (g 84), .ref (g 85), .ref (g 86), .long 0, .int 0])), ((g 86), .inl ((a 86), 7, .inl (fun _ => 0))), ((g 74), .inl ((a 74), 6, .inl (fun _ => 0))), ((g 16), .inr (1, [.ref (g 17), .ref (g 18), .ref (g 19), .ref (g 20), .ref (g 21), .ref (g 22), .ref (g 23), .ref (g 24), .ref (g 25), .ref (g 26), .ref (g 27)])), ((g 17), .inl ((a 17), 11, .inl (fun _ => 0))), ((g 70), .inr (2, [.ref (g 71), .ref (g 72), .ref (g 73), .ref (g 74), .int 0, .int 0, .int 0, .int 0, .int 0, .int 0]))] H := hP
          have hD : va_D A [((g 75), .inr (6, [.ref (g 76), .ref (g 77), .ref (g 78), .ref (g 79), .ref (g 80), .ref (g 81), .ref (g 82), .ref (g 83), .ref (g 84), .ref (g 85), .ref (g 86), .long 0, .int 0])), ((g 86), .inl ((a 86), 7, .inl (fun _ => 0))), ((g 74), .inl ((a 74), 6, .inl (fun _ => 0))), ((g 16), .inr (1, [.ref (g 17), .ref (g 18), .ref (g 19), .ref (g 20), .ref (g 21), .ref (g 22), .ref (g 23), .ref (g 24), .ref (g 25), .ref (g 26), .ref (g 27)])), ((g 17), .inl ((a 17), 11, .inl (fun _ => 0))), ((g 70), .inr (2, [.ref (g 71), .ref (g 72), .ref (g 73), .ref (g 74), .int 0, .int 0, .int 0, .int 0, .int 0, .int 0]))] := hD
          have er : r = 0 := er
          subst er
          refine va_iast hx hb hK hP hD hS 1 0 rfl rfl (by unfold vp_in; decide) dX6_tell_18 (fun H locs hP hD hS => ?_)
          have hP : va_P (dC, dI) vwCl [((g 75), .inr (6, [.ref (g 76), .ref (g 77), .ref (g 78), .ref (g 79), .ref (g 80), .ref (g 81), .ref (g 82), .ref (g 83), .ref (g 84), .ref (g 85), .ref (g 86), .long 0, .int 0])), ((g 86), .inl ((a 86), 7, .inl (upd (fun _ => 0) (3 : Int32).toNatClampNeg 0))), ((g 74), .inl ((a 74), 6, .inl (fun _ => 0))), ((g 16), .inr (1, [.ref (g 17), .ref (g 18), .ref (g 19), .ref (g 20), .ref (g 21), .ref (g 22), .ref (g 23), .ref (g 24), .ref (g 25), .ref (g 26), .ref (g 27)])), ((g 17), .inl ((a 17), 11, .inl (fun _ => 0))), ((g 70), .inr (2, [.ref (g 71), .ref (g 72), .ref (g 73), .ref (g 74), .int 0, .int 0, .int 0, .int 0, .int 0, .int 0]))] H := hP
          have hD : va_D A [((g 75), .inr (6, [.ref (g 76), .ref (g 77), .ref (g 78), .ref (g 79), .ref (g 80), .ref (g 81), .ref (g 82), .ref (g 83), .ref (g 84), .ref (g 85), .ref (g 86), .long 0, .int 0])), ((g 86), .inl ((a 86), 7, .inl (upd (fun _ => 0) (3 : Int32).toNatClampNeg 0))), ((g 74), .inl ((a 74), 6, .inl (fun _ => 0))), ((g 16), .inr (1, [.ref (g 17), .ref (g 18), .ref (g 19), .ref (g 20), .ref (g 21), .ref (g 22), .ref (g 23), .ref (g 24), .ref (g 25), .ref (g 26), .ref (g 27)])), ((g 17), .inl ((a 17), 11, .inl (fun _ => 0))), ((g 70), .inr (2, [.ref (g 71), .ref (g 72), .ref (g 73), .ref (g 74), .int 0, .int 0, .int 0, .int 0, .int 0, .int 0]))] := hD
          rw [u_z] at hP hD
          refine lv_iinc (v := 4) (lv' := [(3, .int 4), (0, .ref (g 75)), (1, .ref (g 16)), (2, .ref (g 70))]) hx hb dX6_tell_19 hl (k := 0) rfl (by decide) (by decide) rfl (fun ls hl => ?_)
          refine lv_goto (tgt := 2) hx hb dX6_tell_22 (by decide) ?_
          refine lv_iload_n hx hb dX6_tell_2 rfl (lv_at hl 0 rfl) ?_
          refine lv_bipush (v := 6) hx hb dX6_tell_3 (by decide) ?_
          refine lv_icmp_gt (tgt := 25) hx hb dX6_tell_5 (by decide) (fun c9 => ?_) (fun c9 => ?_)
          · exact absurd c9 (by decide)
          · refine lv_aload_n hx hb dX6_tell_8 rfl (lv_at hl 1 rfl) ?_
            refine va_get (D := (dC, dI)) (ci := 6) (v := .ref (g 86)) (C := RX6) (T := TX6) (N := 13) hx hb hT inT6 hown hK hP 0 rfl rfl 10 (by decide) (hT _ mw_154) (fun _ h9 => h9) rfl dX6_tell_9 ?_
            refine lv_iload_n hx hb dX6_tell_12 rfl (lv_at hl 0 rfl) ?_
            refine lv_aload_n hx hb dX6_tell_13 rfl (lv_at hl 3 rfl) ?_
            refine lv_iload_n hx hb dX6_tell_14 rfl (lv_at hl 0 rfl) ?_
            refine c_Vi (C := RX2) (As := [.int 4]) (rest := [.int 4, .ref (g 86)]) (wr := [((g 75), .inr (6, [.ref (g 76), .ref (g 77), .ref (g 78), .ref (g 79), .ref (g 80), .ref (g 81), .ref (g 82), .ref (g 83), .ref (g 84), .ref (g 85), .ref (g 86), .long 0, .int 0])), ((g 86), .inl ((a 86), 7, .inl (fun _ => 0))), ((g 74), .inl ((a 74), 6, .inl (fun _ => 0))), ((g 16), .inr (1, [.ref (g 17), .ref (g 18), .ref (g 19), .ref (g 20), .ref (g 21), .ref (g 22), .ref (g 23), .ref (g 24), .ref (g 25), .ref (g 26), .ref (g 27)])), ((g 17), .inl ((a 17), 11, .inl (fun _ => 0)))]) (n := 1) ⟨hx, hb, hml, hown, hT⟩ (k_X2_loadAt_5 l dC dI g a ) hK hP hD hS hA [] rfl [5] [0, 1, 2, 3, 4] rfl rfl rfl rfl (by decide) rfl rfl mw_155 mw_156 mw_157 mw_147 mw_158 (by decide +kernel) ⟨Nat.le_of_ble_eq_true rfl, Nat.le_of_ble_eq_true rfl⟩ ⟨rfl, rfl⟩ rfl hl.1 (Nat.le_of_ble_eq_true rfl) rfl dX6_tell_15 ⟨Nat.zero_le _, Nat.zero_le _⟩ (fun r f10 H locs er hP hD hS => ?_)
            have hP : va_P (dC, dI) vwCl [((g 75), .inr (6, [.ref (g 76), .ref (g 77), .ref (g 78), .ref (g 79), .ref (g 80), .ref (g 81), .ref (g 82), .ref (g 83), .ref (g 84), .ref (g 85), .ref (g 86), .long 0, .int 0])), ((g 86), .inl ((a 86), 7, .inl (fun _ => 0))), ((g 74), .inl ((a 74), 6, .inl (fun _ => 0))), ((g 16), .inr (1, [.ref (g 17), .ref (g 18), .ref (g 19), .ref (g 20), .ref (g 21), .ref (g 22), .ref (g 23), .ref (g 24), .ref (g 25), .ref (g 26), .ref (g 27)])), ((g 17), .inl ((a 17), 11, .inl (fun _ => 0))), ((g 70), .inr (2, [.ref (g 71), .ref (g 72), .ref (g 73), .ref (g 74), .int 0, .int 0, .int 0, .int 0, .int 0, .int 0]))] H := hP
            have hD : va_D A [((g 75), .inr (6, [.ref (g 76), .ref (g 77), .ref (g 78), .ref (g 79), .ref (g 80), .ref (g 81), .ref (g 82), .ref (g 83), .ref (g 84), .ref (g 85), .ref (g 86), .long 0, .int 0])), ((g 86), .inl ((a 86), 7, .inl (fun _ => 0))), ((g 74), .inl ((a 74), 6, .inl (fun _ => 0))), ((g 16), .inr (1, [.ref (g 17), .ref (g 18), .ref (g 19), .ref (g 20), .ref (g 21), .ref (g 22), .ref (g 23), .ref (g 24), .ref (g 25), .ref (g 26), .ref (g 27)])), ((g 17), .inl ((a 17), 11, .inl (fun _ => 0))), ((g 70), .inr (2, [.ref (g 71), .ref (g 72), .ref (g 73), .ref (g 74), .int 0, .int 0, .int 0, .int 0, .int 0, .int 0]))] := hD
            have er : r = 0 := er
            subst er
            refine va_iast hx hb hK hP hD hS 1 0 rfl rfl (by unfold vp_in; decide) dX6_tell_18 (fun H locs hP hD hS => ?_)
            have hP : va_P (dC, dI) vwCl [((g 75), .inr (6, [.ref (g 76), .ref (g 77), .ref (g 78), .ref (g 79), .ref (g 80), .ref (g 81), .ref (g 82), .ref (g 83), .ref (g 84), .ref (g 85), .ref (g 86), .long 0, .int 0])), ((g 86), .inl ((a 86), 7, .inl (upd (fun _ => 0) (4 : Int32).toNatClampNeg 0))), ((g 74), .inl ((a 74), 6, .inl (fun _ => 0))), ((g 16), .inr (1, [.ref (g 17), .ref (g 18), .ref (g 19), .ref (g 20), .ref (g 21), .ref (g 22), .ref (g 23), .ref (g 24), .ref (g 25), .ref (g 26), .ref (g 27)])), ((g 17), .inl ((a 17), 11, .inl (fun _ => 0))), ((g 70), .inr (2, [.ref (g 71), .ref (g 72), .ref (g 73), .ref (g 74), .int 0, .int 0, .int 0, .int 0, .int 0, .int 0]))] H := hP
            have hD : va_D A [((g 75), .inr (6, [.ref (g 76), .ref (g 77), .ref (g 78), .ref (g 79), .ref (g 80), .ref (g 81), .ref (g 82), .ref (g 83), .ref (g 84), .ref (g 85), .ref (g 86), .long 0, .int 0])), ((g 86), .inl ((a 86), 7, .inl (upd (fun _ => 0) (4 : Int32).toNatClampNeg 0))), ((g 74), .inl ((a 74), 6, .inl (fun _ => 0))), ((g 16), .inr (1, [.ref (g 17), .ref (g 18), .ref (g 19), .ref (g 20), .ref (g 21), .ref (g 22), .ref (g 23), .ref (g 24), .ref (g 25), .ref (g 26), .ref (g 27)])), ((g 17), .inl ((a 17), 11, .inl (fun _ => 0))), ((g 70), .inr (2, [.ref (g 71), .ref (g 72), .ref (g 73), .ref (g 74), .int 0, .int 0, .int 0, .int 0, .int 0, .int 0]))] := hD
            rw [u_z] at hP hD
            refine lv_iinc (v := 5) (lv' := [(3, .int 5), (0, .ref (g 75)), (1, .ref (g 16)), (2, .ref (g 70))]) hx hb dX6_tell_19 hl (k := 0) rfl (by decide) (by decide) rfl (fun ls hl => ?_)
            refine lv_goto (tgt := 2) hx hb dX6_tell_22 (by decide) ?_
            refine lv_iload_n hx hb dX6_tell_2 rfl (lv_at hl 0 rfl) ?_
            refine lv_bipush (v := 6) hx hb dX6_tell_3 (by decide) ?_
            refine lv_icmp_gt (tgt := 25) hx hb dX6_tell_5 (by decide) (fun c11 => ?_) (fun c11 => ?_)
            · exact absurd c11 (by decide)
            · refine lv_aload_n hx hb dX6_tell_8 rfl (lv_at hl 1 rfl) ?_
              refine va_get (D := (dC, dI)) (ci := 6) (v := .ref (g 86)) (C := RX6) (T := TX6) (N := 13) hx hb hT inT6 hown hK hP 0 rfl rfl 10 (by decide) (hT _ mw_154) (fun _ h9 => h9) rfl dX6_tell_9 ?_
              refine lv_iload_n hx hb dX6_tell_12 rfl (lv_at hl 0 rfl) ?_
              refine lv_aload_n hx hb dX6_tell_13 rfl (lv_at hl 3 rfl) ?_
              refine lv_iload_n hx hb dX6_tell_14 rfl (lv_at hl 0 rfl) ?_
              refine c_Vi (C := RX2) (As := [.int 5]) (rest := [.int 5, .ref (g 86)]) (wr := [((g 75), .inr (6, [.ref (g 76), .ref (g 77), .ref (g 78), .ref (g 79), .ref (g 80), .ref (g 81), .ref (g 82), .ref (g 83), .ref (g 84), .ref (g 85), .ref (g 86), .long 0, .int 0])), ((g 86), .inl ((a 86), 7, .inl (fun _ => 0))), ((g 74), .inl ((a 74), 6, .inl (fun _ => 0))), ((g 16), .inr (1, [.ref (g 17), .ref (g 18), .ref (g 19), .ref (g 20), .ref (g 21), .ref (g 22), .ref (g 23), .ref (g 24), .ref (g 25), .ref (g 26), .ref (g 27)])), ((g 17), .inl ((a 17), 11, .inl (fun _ => 0)))]) (n := 1) ⟨hx, hb, hml, hown, hT⟩ (k_X2_loadAt_6 l dC dI g a ) hK hP hD hS hA [] rfl [5] [0, 1, 2, 3, 4] rfl rfl rfl rfl (by decide) rfl rfl mw_155 mw_156 mw_157 mw_147 mw_158 (by decide +kernel) ⟨Nat.le_of_ble_eq_true rfl, Nat.le_of_ble_eq_true rfl⟩ ⟨rfl, rfl⟩ rfl hl.1 (Nat.le_of_ble_eq_true rfl) rfl dX6_tell_15 ⟨Nat.zero_le _, Nat.zero_le _⟩ (fun r f12 H locs er hP hD hS => ?_)
              have hP : va_P (dC, dI) vwCl [((g 75), .inr (6, [.ref (g 76), .ref (g 77), .ref (g 78), .ref (g 79), .ref (g 80), .ref (g 81), .ref (g 82), .ref (g 83), .ref (g 84), .ref (g 85), .ref (g 86), .long 0, .int 0])), ((g 86), .inl ((a 86), 7, .inl (fun _ => 0))), ((g 74), .inl ((a 74), 6, .inl (fun _ => 0))), ((g 16), .inr (1, [.ref (g 17), .ref (g 18), .ref (g 19), .ref (g 20), .ref (g 21), .ref (g 22), .ref (g 23), .ref (g 24), .ref (g 25), .ref (g 26), .ref (g 27)])), ((g 17), .inl ((a 17), 11, .inl (fun _ => 0))), ((g 70), .inr (2, [.ref (g 71), .ref (g 72), .ref (g 73), .ref (g 74), .int 0, .int 0, .int 0, .int 0, .int 0, .int 0]))] H := hP
              have hD : va_D A [((g 75), .inr (6, [.ref (g 76), .ref (g 77), .ref (g 78), .ref (g 79), .ref (g 80), .ref (g 81), .ref (g 82), .ref (g 83), .ref (g 84), .ref (g 85), .ref (g 86), .long 0, .int 0])), ((g 86), .inl ((a 86), 7, .inl (fun _ => 0))), ((g 74), .inl ((a 74), 6, .inl (fun _ => 0))), ((g 16), .inr (1, [.ref (g 17), .ref (g 18), .ref (g 19), .ref (g 20), .ref (g 21), .ref (g 22), .ref (g 23), .ref (g 24), .ref (g 25), .ref (g 26), .ref (g 27)])), ((g 17), .inl ((a 17), 11, .inl (fun _ => 0))), ((g 70), .inr (2, [.ref (g 71), .ref (g 72), .ref (g 73), .ref (g 74), .int 0, .int 0, .int 0, .int 0, .int 0, .int 0]))] := hD
              have er : r = 0 := er
              subst er
              refine va_iast hx hb hK hP hD hS 1 0 rfl rfl (by unfold vp_in; decide) dX6_tell_18 (fun H locs hP hD hS => ?_)
              have hP : va_P (dC, dI) vwCl [((g 75), .inr (6, [.ref (g 76), .ref (g 77), .ref (g 78), .ref (g 79), .ref (g 80), .ref (g 81), .ref (g 82), .ref (g 83), .ref (g 84), .ref (g 85), .ref (g 86), .long 0, .int 0])), ((g 86), .inl ((a 86), 7, .inl (upd (fun _ => 0) (5 : Int32).toNatClampNeg 0))), ((g 74), .inl ((a 74), 6, .inl (fun _ => 0))), ((g 16), .inr (1, [.ref (g 17), .ref (g 18), .ref (g 19), .ref (g 20), .ref (g 21), .ref (g 22), .ref (g 23), .ref (g 24), .ref (g 25), .ref (g 26), .ref (g 27)])), ((g 17), .inl ((a 17), 11, .inl (fun _ => 0))), ((g 70), .inr (2, [.ref (g 71), .ref (g 72), .ref (g 73), .ref (g 74), .int 0, .int 0, .int 0, .int 0, .int 0, .int 0]))] H := hP
              have hD : va_D A [((g 75), .inr (6, [.ref (g 76), .ref (g 77), .ref (g 78), .ref (g 79), .ref (g 80), .ref (g 81), .ref (g 82), .ref (g 83), .ref (g 84), .ref (g 85), .ref (g 86), .long 0, .int 0])), ((g 86), .inl ((a 86), 7, .inl (upd (fun _ => 0) (5 : Int32).toNatClampNeg 0))), ((g 74), .inl ((a 74), 6, .inl (fun _ => 0))), ((g 16), .inr (1, [.ref (g 17), .ref (g 18), .ref (g 19), .ref (g 20), .ref (g 21), .ref (g 22), .ref (g 23), .ref (g 24), .ref (g 25), .ref (g 26), .ref (g 27)])), ((g 17), .inl ((a 17), 11, .inl (fun _ => 0))), ((g 70), .inr (2, [.ref (g 71), .ref (g 72), .ref (g 73), .ref (g 74), .int 0, .int 0, .int 0, .int 0, .int 0, .int 0]))] := hD
              rw [u_z] at hP hD
              refine lv_iinc (v := 6) (lv' := [(3, .int 6), (0, .ref (g 75)), (1, .ref (g 16)), (2, .ref (g 70))]) hx hb dX6_tell_19 hl (k := 0) rfl (by decide) (by decide) rfl (fun ls hl => ?_)
              refine lv_goto (tgt := 2) hx hb dX6_tell_22 (by decide) ?_
              refine lv_iload_n hx hb dX6_tell_2 rfl (lv_at hl 0 rfl) ?_
              refine lv_bipush (v := 6) hx hb dX6_tell_3 (by decide) ?_
              refine lv_icmp_gt (tgt := 25) hx hb dX6_tell_5 (by decide) (fun c13 => ?_) (fun c13 => ?_)
              · exact absurd c13 (by decide)
              · refine lv_aload_n hx hb dX6_tell_8 rfl (lv_at hl 1 rfl) ?_
                refine va_get (D := (dC, dI)) (ci := 6) (v := .ref (g 86)) (C := RX6) (T := TX6) (N := 13) hx hb hT inT6 hown hK hP 0 rfl rfl 10 (by decide) (hT _ mw_154) (fun _ h9 => h9) rfl dX6_tell_9 ?_
                refine lv_iload_n hx hb dX6_tell_12 rfl (lv_at hl 0 rfl) ?_
                refine lv_aload_n hx hb dX6_tell_13 rfl (lv_at hl 3 rfl) ?_
                refine lv_iload_n hx hb dX6_tell_14 rfl (lv_at hl 0 rfl) ?_
                refine c_Vi (C := RX2) (As := [.int 6]) (rest := [.int 6, .ref (g 86)]) (wr := [((g 75), .inr (6, [.ref (g 76), .ref (g 77), .ref (g 78), .ref (g 79), .ref (g 80), .ref (g 81), .ref (g 82), .ref (g 83), .ref (g 84), .ref (g 85), .ref (g 86), .long 0, .int 0])), ((g 86), .inl ((a 86), 7, .inl (fun _ => 0))), ((g 74), .inl ((a 74), 6, .inl (fun _ => 0))), ((g 16), .inr (1, [.ref (g 17), .ref (g 18), .ref (g 19), .ref (g 20), .ref (g 21), .ref (g 22), .ref (g 23), .ref (g 24), .ref (g 25), .ref (g 26), .ref (g 27)])), ((g 17), .inl ((a 17), 11, .inl (fun _ => 0)))]) (n := 1) ⟨hx, hb, hml, hown, hT⟩ (k_X2_loadAt_7 l dC dI g a ) hK hP hD hS hA [] rfl [5] [0, 1, 2, 3, 4] rfl rfl rfl rfl (by decide) rfl rfl mw_155 mw_156 mw_157 mw_147 mw_158 (by decide +kernel) ⟨Nat.le_of_ble_eq_true rfl, Nat.le_of_ble_eq_true rfl⟩ ⟨rfl, rfl⟩ rfl hl.1 (Nat.le_of_ble_eq_true rfl) rfl dX6_tell_15 ⟨Nat.zero_le _, Nat.zero_le _⟩ (fun r f14 H locs er hP hD hS => ?_)
                have hP : va_P (dC, dI) vwCl [((g 75), .inr (6, [.ref (g 76), .ref (g 77), .ref (g 78), .ref (g 79), .ref (g 80), .ref (g 81), .ref (g 82), .ref (g 83), .ref (g 84), .ref (g 85), .ref (g 86), .long 0, .int 0])), ((g 86), .inl ((a 86), 7, .inl (fun _ => 0))), ((g 74), .inl ((a 74), 6, .inl (fun _ => 0))), ((g 16), .inr (1, [.ref (g 17), .ref (g 18), .ref (g 19), .ref (g 20), .ref (g 21), .ref (g 22), .ref (g 23), .ref (g 24), .ref (g 25), .ref (g 26), .ref (g 27)])), ((g 17), .inl ((a 17), 11, .inl (fun _ => 0))), ((g 70), .inr (2, [.ref (g 71), .ref (g 72), .ref (g 73), .ref (g 74), .int 0, .int 0, .int 0, .int 0, .int 0, .int 0]))] H := hP
                have hD : va_D A [((g 75), .inr (6, [.ref (g 76), .ref (g 77), .ref (g 78), .ref (g 79), .ref (g 80), .ref (g 81), .ref (g 82), .ref (g 83), .ref (g 84), .ref (g 85), .ref (g 86), .long 0, .int 0])), ((g 86), .inl ((a 86), 7, .inl (fun _ => 0))), ((g 74), .inl ((a 74), 6, .inl (fun _ => 0))), ((g 16), .inr (1, [.ref (g 17), .ref (g 18), .ref (g 19), .ref (g 20), .ref (g 21), .ref (g 22), .ref (g 23), .ref (g 24), .ref (g 25), .ref (g 26), .ref (g 27)])), ((g 17), .inl ((a 17), 11, .inl (fun _ => 0))), ((g 70), .inr (2, [.ref (g 71), .ref (g 72), .ref (g 73), .ref (g 74), .int 0, .int 0, .int 0, .int 0, .int 0, .int 0]))] := hD
                have er : r = 0 := er
                subst er
                refine va_iast hx hb hK hP hD hS 1 0 rfl rfl (by unfold vp_in; decide) dX6_tell_18 (fun H locs hP hD hS => ?_)
                have hP : va_P (dC, dI) vwCl [((g 75), .inr (6, [.ref (g 76), .ref (g 77), .ref (g 78), .ref (g 79), .ref (g 80), .ref (g 81), .ref (g 82), .ref (g 83), .ref (g 84), .ref (g 85), .ref (g 86), .long 0, .int 0])), ((g 86), .inl ((a 86), 7, .inl (upd (fun _ => 0) (6 : Int32).toNatClampNeg 0))), ((g 74), .inl ((a 74), 6, .inl (fun _ => 0))), ((g 16), .inr (1, [.ref (g 17), .ref (g 18), .ref (g 19), .ref (g 20), .ref (g 21), .ref (g 22), .ref (g 23), .ref (g 24), .ref (g 25), .ref (g 26), .ref (g 27)])), ((g 17), .inl ((a 17), 11, .inl (fun _ => 0))), ((g 70), .inr (2, [.ref (g 71), .ref (g 72), .ref (g 73), .ref (g 74), .int 0, .int 0, .int 0, .int 0, .int 0, .int 0]))] H := hP
                have hD : va_D A [((g 75), .inr (6, [.ref (g 76), .ref (g 77), .ref (g 78), .ref (g 79), .ref (g 80), .ref (g 81), .ref (g 82), .ref (g 83), .ref (g 84), .ref (g 85), .ref (g 86), .long 0, .int 0])), ((g 86), .inl ((a 86), 7, .inl (upd (fun _ => 0) (6 : Int32).toNatClampNeg 0))), ((g 74), .inl ((a 74), 6, .inl (fun _ => 0))), ((g 16), .inr (1, [.ref (g 17), .ref (g 18), .ref (g 19), .ref (g 20), .ref (g 21), .ref (g 22), .ref (g 23), .ref (g 24), .ref (g 25), .ref (g 26), .ref (g 27)])), ((g 17), .inl ((a 17), 11, .inl (fun _ => 0))), ((g 70), .inr (2, [.ref (g 71), .ref (g 72), .ref (g 73), .ref (g 74), .int 0, .int 0, .int 0, .int 0, .int 0, .int 0]))] := hD
                rw [u_z] at hP hD
                refine lv_iinc (v := 7) (lv' := [(3, .int 7), (0, .ref (g 75)), (1, .ref (g 16)), (2, .ref (g 70))]) hx hb dX6_tell_19 hl (k := 0) rfl (by decide) (by decide) rfl (fun ls hl => ?_)
                refine lv_goto (tgt := 2) hx hb dX6_tell_22 (by decide) ?_
                refine lv_iload_n hx hb dX6_tell_2 rfl (lv_at hl 0 rfl) ?_
                refine lv_bipush (v := 6) hx hb dX6_tell_3 (by decide) ?_
                refine lv_icmp_gt (tgt := 25) hx hb dX6_tell_5 (by decide) (fun c15 => ?_) (fun c15 => ?_)
                · refine lv_aload_n hx hb dX6_tell_25 rfl (lv_at hl 1 rfl) ?_
                  refine lv_aload_n hx hb dX6_tell_26 rfl (lv_at hl 3 rfl) ?_
                  refine c_Vi (C := RX2) (As := []) (rest := [.ref (g 75)]) (wr := [((g 75), .inr (6, [.ref (g 76), .ref (g 77), .ref (g 78), .ref (g 79), .ref (g 80), .ref (g 81), .ref (g 82), .ref (g 83), .ref (g 84), .ref (g 85), .ref (g 86), .long 0, .int 0])), ((g 86), .inl ((a 86), 7, .inl (fun _ => 0))), ((g 74), .inl ((a 74), 6, .inl (fun _ => 0))), ((g 16), .inr (1, [.ref (g 17), .ref (g 18), .ref (g 19), .ref (g 20), .ref (g 21), .ref (g 22), .ref (g 23), .ref (g 24), .ref (g 25), .ref (g 26), .ref (g 27)])), ((g 17), .inl ((a 17), 11, .inl (fun _ => 0)))]) (n := 0) ⟨hx, hb, hml, hown, hT⟩ (k_X2_poured l dC dI g a ) hK hP hD hS hA [] rfl [5] [0, 1, 2, 3, 4] rfl rfl rfl rfl (by decide) rfl rfl mw_160 mw_161 mw_162 mw_147 mw_163 (by decide +kernel) ⟨Nat.le_of_ble_eq_true rfl, Nat.le_of_ble_eq_true rfl⟩ ⟨rfl, rfl⟩ rfl hl.1 (Nat.le_of_ble_eq_true rfl) rfl dX6_tell_27 ⟨Nat.zero_le _, Nat.zero_le _⟩ (fun r f16 H locs er hP hD hS => ?_)
                  have hP : va_P (dC, dI) vwCl [((g 75), .inr (6, [.ref (g 76), .ref (g 77), .ref (g 78), .ref (g 79), .ref (g 80), .ref (g 81), .ref (g 82), .ref (g 83), .ref (g 84), .ref (g 85), .ref (g 86), .long 0, .int 0])), ((g 86), .inl ((a 86), 7, .inl (fun _ => 0))), ((g 74), .inl ((a 74), 6, .inl (fun _ => 0))), ((g 16), .inr (1, [.ref (g 17), .ref (g 18), .ref (g 19), .ref (g 20), .ref (g 21), .ref (g 22), .ref (g 23), .ref (g 24), .ref (g 25), .ref (g 26), .ref (g 27)])), ((g 17), .inl ((a 17), 11, .inl (fun _ => 0))), ((g 70), .inr (2, [.ref (g 71), .ref (g 72), .ref (g 73), .ref (g 74), .int 0, .int 0, .int 0, .int 0, .int 0, .int 0]))] H := hP
                  have hD : va_D A [((g 75), .inr (6, [.ref (g 76), .ref (g 77), .ref (g 78), .ref (g 79), .ref (g 80), .ref (g 81), .ref (g 82), .ref (g 83), .ref (g 84), .ref (g 85), .ref (g 86), .long 0, .int 0])), ((g 86), .inl ((a 86), 7, .inl (fun _ => 0))), ((g 74), .inl ((a 74), 6, .inl (fun _ => 0))), ((g 16), .inr (1, [.ref (g 17), .ref (g 18), .ref (g 19), .ref (g 20), .ref (g 21), .ref (g 22), .ref (g 23), .ref (g 24), .ref (g 25), .ref (g 26), .ref (g 27)])), ((g 17), .inl ((a 17), 11, .inl (fun _ => 0))), ((g 70), .inr (2, [.ref (g 71), .ref (g 72), .ref (g 73), .ref (g 74), .int 0, .int 0, .int 0, .int 0, .int 0, .int 0]))] := hD
                  have er : r = 0 := er
                  subst er
                  refine va_put (D := (dC, dI)) (ci := 6) (v := .int 0) (ty := .int) (C := RX6) (T := TX6) (N := 13) hx hb hT inT6 tyX6 tyX6_ok nmX6 hown hK hP hD hS 0 rfl rfl 12 (by decide) (hT _ mw_164) (fun _ h9 => h9) rfl (by decide +kernel) rfl rfl (Nat.le_of_ble_eq_true rfl) dX6_tell_30 (fun H locs hP hD hS => ?_)
                  have hP : va_P (dC, dI) vwCl [((g 75), .inr (6, [.ref (g 76), .ref (g 77), .ref (g 78), .ref (g 79), .ref (g 80), .ref (g 81), .ref (g 82), .ref (g 83), .ref (g 84), .ref (g 85), .ref (g 86), .long 0, .int 0])), ((g 86), .inl ((a 86), 7, .inl (fun _ => 0))), ((g 74), .inl ((a 74), 6, .inl (fun _ => 0))), ((g 16), .inr (1, [.ref (g 17), .ref (g 18), .ref (g 19), .ref (g 20), .ref (g 21), .ref (g 22), .ref (g 23), .ref (g 24), .ref (g 25), .ref (g 26), .ref (g 27)])), ((g 17), .inl ((a 17), 11, .inl (fun _ => 0))), ((g 70), .inr (2, [.ref (g 71), .ref (g 72), .ref (g 73), .ref (g 74), .int 0, .int 0, .int 0, .int 0, .int 0, .int 0]))] H := hP
                  have hD : va_D A [((g 75), .inr (6, [.ref (g 76), .ref (g 77), .ref (g 78), .ref (g 79), .ref (g 80), .ref (g 81), .ref (g 82), .ref (g 83), .ref (g 84), .ref (g 85), .ref (g 86), .long 0, .int 0])), ((g 86), .inl ((a 86), 7, .inl (fun _ => 0))), ((g 74), .inl ((a 74), 6, .inl (fun _ => 0))), ((g 16), .inr (1, [.ref (g 17), .ref (g 18), .ref (g 19), .ref (g 20), .ref (g 21), .ref (g 22), .ref (g 23), .ref (g 24), .ref (g 25), .ref (g 26), .ref (g 27)])), ((g 17), .inl ((a 17), 11, .inl (fun _ => 0))), ((g 70), .inr (2, [.ref (g 71), .ref (g 72), .ref (g 73), .ref (g 74), .int 0, .int 0, .int 0, .int 0, .int 0, .int 0]))] := hD
                  refine lv_aload_n hx hb dX6_tell_33 rfl (lv_at hl 1 rfl) ?_
                  refine lv_lconst (v := 0) hx hb dX6_tell_34 (by decide) ?_
                  refine va_put (D := (dC, dI)) (ci := 6) (v := .long 0) (ty := .long) (C := RX6) (T := TX6) (N := 13) hx hb hT inT6 tyX6 tyX6_ok nmX6 hown hK hP hD hS 0 rfl rfl 11 (by decide) (hT _ mw_165) (fun _ h9 => h9) rfl (by decide +kernel) rfl rfl (Nat.le_of_ble_eq_true rfl) dX6_tell_35 (fun H locs hP hD hS => ?_)
                  have hP : va_P (dC, dI) vwCl [((g 75), .inr (6, [.ref (g 76), .ref (g 77), .ref (g 78), .ref (g 79), .ref (g 80), .ref (g 81), .ref (g 82), .ref (g 83), .ref (g 84), .ref (g 85), .ref (g 86), .long 0, .int 0])), ((g 86), .inl ((a 86), 7, .inl (fun _ => 0))), ((g 74), .inl ((a 74), 6, .inl (fun _ => 0))), ((g 16), .inr (1, [.ref (g 17), .ref (g 18), .ref (g 19), .ref (g 20), .ref (g 21), .ref (g 22), .ref (g 23), .ref (g 24), .ref (g 25), .ref (g 26), .ref (g 27)])), ((g 17), .inl ((a 17), 11, .inl (fun _ => 0))), ((g 70), .inr (2, [.ref (g 71), .ref (g 72), .ref (g 73), .ref (g 74), .int 0, .int 0, .int 0, .int 0, .int 0, .int 0]))] H := hP
                  have hD : va_D A [((g 75), .inr (6, [.ref (g 76), .ref (g 77), .ref (g 78), .ref (g 79), .ref (g 80), .ref (g 81), .ref (g 82), .ref (g 83), .ref (g 84), .ref (g 85), .ref (g 86), .long 0, .int 0])), ((g 86), .inl ((a 86), 7, .inl (fun _ => 0))), ((g 74), .inl ((a 74), 6, .inl (fun _ => 0))), ((g 16), .inr (1, [.ref (g 17), .ref (g 18), .ref (g 19), .ref (g 20), .ref (g 21), .ref (g 22), .ref (g 23), .ref (g 24), .ref (g 25), .ref (g 26), .ref (g 27)])), ((g 17), .inl ((a 17), 11, .inl (fun _ => 0))), ((g 70), .inr (2, [.ref (g 71), .ref (g 72), .ref (g 73), .ref (g 74), .int 0, .int 0, .int 0, .int 0, .int 0, .int 0]))] := hD
                  refine lv_aload_n hx hb dX6_tell_38 rfl (lv_at hl 3 rfl) ?_
                  refine c_Vv (C := RX2) (As := []) (rest := []) (wr := [((g 75), .inr (6, [.ref (g 76), .ref (g 77), .ref (g 78), .ref (g 79), .ref (g 80), .ref (g 81), .ref (g 82), .ref (g 83), .ref (g 84), .ref (g 85), .ref (g 86), .long 0, .int 0])), ((g 86), .inl ((a 86), 7, .inl (fun _ => 0))), ((g 16), .inr (1, [.ref (g 17), .ref (g 18), .ref (g 19), .ref (g 20), .ref (g 21), .ref (g 22), .ref (g 23), .ref (g 24), .ref (g 25), .ref (g 26), .ref (g 27)])), ((g 17), .inl ((a 17), 11, .inl (fun _ => 0)))]) (n := 0) ⟨hx, hb, hml, hown, hT⟩ (k_X2_begin l dC dI g a ) hK hP hD hS hA [1] rfl [5, 2] [0, 1, 3, 4] rfl rfl rfl rfl (by decide) rfl rfl mw_169 mw_170 mw_171 mw_147 mw_172 (by decide +kernel) ⟨Nat.le_of_ble_eq_true rfl, Nat.le_of_ble_eq_true rfl⟩ ⟨rfl, rfl⟩ rfl hl.1 (Nat.le_of_ble_eq_true rfl) rfl dX6_tell_39 ⟨Nat.zero_le _, Nat.zero_le _⟩ (fun f17 H locs hP hD hS => ?_)
                  have hP : va_P (dC, dI) vwCl [((g 75), .inr (6, [.ref (g 76), .ref (g 77), .ref (g 78), .ref (g 79), .ref (g 80), .ref (g 81), .ref (g 82), .ref (g 83), .ref (g 84), .ref (g 85), .ref (g 86), .long 0, .int 0])), ((g 86), .inl ((a 86), 7, .inl (fun _ => 0))), ((g 16), .inr (1, [.ref (g 17), .ref (g 18), .ref (g 19), .ref (g 20), .ref (g 21), .ref (g 22), .ref (g 23), .ref (g 24), .ref (g 25), .ref (g 26), .ref (g 27)])), ((g 17), .inl ((a 17), 11, .inl (fun _ => 0))), ((g 70), .inr (2, [.ref (g 71), .ref (g 72), .ref (g 73), .ref (g 74), .int 0, .int 0, .int 0, .int 0, .int 0, .int 0])), ((g 74), .inl ((a 74), 6, .inl (fun _ => 0)))] H := hP
                  have hD : va_D A [((g 75), .inr (6, [.ref (g 76), .ref (g 77), .ref (g 78), .ref (g 79), .ref (g 80), .ref (g 81), .ref (g 82), .ref (g 83), .ref (g 84), .ref (g 85), .ref (g 86), .long 0, .int 0])), ((g 86), .inl ((a 86), 7, .inl (fun _ => 0))), ((g 16), .inr (1, [.ref (g 17), .ref (g 18), .ref (g 19), .ref (g 20), .ref (g 21), .ref (g 22), .ref (g 23), .ref (g 24), .ref (g 25), .ref (g 26), .ref (g 27)])), ((g 17), .inl ((a 17), 11, .inl (fun _ => 0))), ((g 70), .inr (2, [.ref (g 71), .ref (g 72), .ref (g 73), .ref (g 74), .int 0, .int 0, .int 0, .int 0, .int 0, .int 0])), ((g 74), .inl ((a 74), 6, .inl (fun _ => 0)))] := hD
                  refine lv_iconst (v := 0) hx hb dX6_tell_42 (by decide) ?_
                  refine lv_istore_n (lv' := [(3, .int 0), (0, .ref (g 75)), (1, .ref (g 16)), (2, .ref (g 70))]) hx hb dX6_tell_43 rfl hl (by decide) rfl (fun ls hl => ?_)
                  refine lv_iload_n hx hb dX6_tell_44 rfl (lv_at hl 0 rfl) ?_
                  refine lv_aload_n hx hb dX6_tell_45 rfl (lv_at hl 2 rfl) ?_
                  refine va_get (D := (dC, dI)) (ci := 1) (v := .ref (g 17)) (C := RX1) (T := TX1) (N := 11) hx hb hT inT1 hown hK hP 2 rfl rfl 0 (by decide) (hT _ mw_173) (fun _ h9 => h9) rfl dX6_tell_46 ?_
                  refine lv_iconst (v := 0) hx hb dX6_tell_49 (by decide) ?_
                  refine va_iald hx hb hK hP 3 2 rfl rfl (by unfold vp_in; decide) dX6_tell_50 ?_
                  refine t_i 0 rfl ?_
                  refine lv_icmp_ge (tgt := 114) hx hb dX6_tell_51 (by decide) (fun c18 => ?_) (fun c18 => ?_)
                  · exact e_v hx hb hr hlocks hP hD hS (fun _ => 0) [0, 4, 1, 5, 2, 3] rfl rfl dX6_tell_114
                  · exact absurd c18 (by decide)
                · exact absurd c15 (by decide)
