set_option maxRecDepth 100000 in
set_option maxHeartbeats 4000000 in
theorem k_X9_when (l : Launch) (dC : Nat → ClassId) (dI : Nat → Nat → Nat) (g : Nat → Nat) (a : Nat → ClassId) (p0 : Int32)  : MI l dC dI yX9_when (Cond.code yX9_when cX9_when 3 (some .int)) ({ frames := 3, cells := 0, slots := 0, locals := 65 }) [.ref (g 0), .int p0] [((a 1), .int), ((a 15), .int), ((a 17), .int), ((a 21), .boolean), ((a 16), .boolean)] [((g 0), .inr (9, oM g 0 0 0 0 0 0 (-1))), ((g 1), .inl ((a 1), 68, .inl (fun _ => 0))), ((g 15), .inl ((a 15), 6, .inl (fun _ => 0))), ((g 17), .inl ((a 17), 6, .inl (fun _ => 0))), ((g 21), .inl ((a 21), 60, .inl (fun _ => 0))), ((g 16), .inl ((a 16), 360, .inl (fun _ => 0)))] (fun r : Int32 => r = (-2)) (fun f => []) := by
  refine m_of (Qc := fun A => QI dC dI A (fun r : Int32 => r = (-2)) (fun f => [])) (lv := [(0, .ref (g 0)), (1, .int p0)]) (by decide) (Nat.le_of_ble_eq_true rfl) rfl ?_
  intro p e s m below meth c A ls hx hb hr hml hT hown hlocks hname hP hK hD hS hA hl
  have hown : s.vm.findClass RX9 = some m.cls := hown
  refine lv_aload_n hx hb dX9_when_0 rfl (lv_at hl 0 rfl) ?_
  refine c_Vi (C := RX9) (As := []) (rest := []) (wr := []) (n := 0) ⟨hx, hb, hml, hown, hT⟩ (k_X9_asksBrigade l dC dI g a ) hK hP hD hS hA [0, 1, 2, 3, 4] rfl [0, 1, 2, 3, 4, 5] [] rfl rfl rfl rfl (by decide) rfl rfl mw_130 mw_131 mw_132 mw_19 mw_133 (by decide +kernel) ⟨Nat.le_of_ble_eq_true rfl, Nat.le_of_ble_eq_true rfl⟩ ⟨rfl, rfl⟩ rfl hl.1 (Nat.le_of_ble_eq_true rfl) rfl dX9_when_1 ⟨Nat.zero_le _, Nat.zero_le _⟩ (fun r f1 H locs er hP hD hS => ?_)
  have hP : va_P (dC, dI) vwCl [((g 0), .inr (9, oM g 0 0 0 0 0 0 (-1))), ((g 1), .inl ((a 1), 68, .inl (fun _ => 0))), ((g 15), .inl ((a 15), 6, .inl (fun _ => 0))), ((g 21), .inl ((a 21), 60, .inl (fun _ => 0))), ((g 16), .inl ((a 16), 360, .inl (fun _ => 0)))] H := hP
  have hD : va_D A [((g 0), .inr (9, oM g 0 0 0 0 0 0 (-1))), ((g 1), .inl ((a 1), 68, .inl (fun _ => 0))), ((g 15), .inl ((a 15), 6, .inl (fun _ => 0))), ((g 21), .inl ((a 21), 60, .inl (fun _ => 0))), ((g 16), .inl ((a 16), 360, .inl (fun _ => 0)))] := hD
  have er : r = 0 := er
  subst er
  refine lv_if_eq (tgt := 11) hx hb dX9_when_4 (by decide) (fun c2 => ?_) (fun c2 => ?_)
  · refine lv_bipush (v := (-2)) hx hb dX9_when_11 (by decide) ?_
    exact e_i hx hb hr hlocks hP hD hS (fun _ => 0) [] rfl rfl rfl dX9_when_13
  · exact absurd c2 (by decide)
set_option maxRecDepth 100000 in
set_option maxHeartbeats 4000000 in
theorem k_X8_gap (l : Launch) (dC : Nat → ClassId) (dI : Nat → Nat → Nat) (g : Nat → Nat) (a : Nat → ClassId)   : MI l dC dI yX8_gap (Cond.code yX8_gap cX8_gap 6 (some .int)) ({ frames := 1, cells := 0, slots := 0, locals := 20 }) [.ref (g 0)] [((a 17), .int)] [((g 0), .inr (8, [.ref (g 1), .ref (g 2), .ref (g 4), .ref (g 16), .ref (g 64), .ref (g 65), .ref (g 66), .ref (g 70), .ref (g 75), .ref (g 87), .ref (g 94), .int 0, .int 0, .int 0])), ((g 16), .inr (1, [.ref (g 17), .ref (g 18), .ref (g 19), .ref (g 20), .ref (g 21), .ref (g 22), .ref (g 23), .ref (g 24), .ref (g 25), .ref (g 26), .ref (g 27)])), ((g 17), .inl ((a 17), 11, .inl (fun _ => 0)))] (fun r : Int32 => r = (-2)) (fun f => []) := by
  refine m_of (Qc := fun A => QI dC dI A (fun r : Int32 => r = (-2)) (fun f => [])) (lv := [(0, .ref (g 0))]) (by decide) (Nat.le_of_ble_eq_true rfl) rfl ?_
  intro p e s m below meth c A ls hx hb hr hml hT hown hlocks hname hP hK hD hS hA hl
  have hown : s.vm.findClass RX8 = some m.cls := hown
  refine lv_aload_n hx hb dX8_gap_0 rfl (lv_at hl 0 rfl) ?_
  refine va_get (D := (dC, dI)) (ci := 8) (v := .ref (g 16)) (C := RX8) (T := TX8) (N := 14) hx hb hT inT8 hown hK hP 0 rfl rfl 3 (by decide) (hT _ mw_45) (fun _ h9 => h9) rfl dX8_gap_1 ?_
  refine c_Vi (C := RX1) (As := []) (rest := []) (wr := [((g 0), .inr (8, [.ref (g 1), .ref (g 2), .ref (g 4), .ref (g 16), .ref (g 64), .ref (g 65), .ref (g 66), .ref (g 70), .ref (g 75), .ref (g 87), .ref (g 94), .int 0, .int 0, .int 0]))]) (n := 0) ⟨hx, hb, hml, hown, hT⟩ (k_X1_stands l dC dI g a ) hK hP hD hS hA [0] rfl [1, 2] [0] rfl rfl rfl rfl (by decide) rfl rfl mw_201 mw_202 mw_203 mw_27 mw_204 (by decide +kernel) ⟨Nat.le_of_ble_eq_true rfl, Nat.le_of_ble_eq_true rfl⟩ ⟨rfl, rfl⟩ rfl hl.1 (Nat.le_of_ble_eq_true rfl) rfl dX8_gap_4 ⟨Nat.zero_le _, Nat.zero_le _⟩ (fun r f1 H locs er hP hD hS => ?_)
  have hP : va_P (dC, dI) vwCl [((g 0), .inr (8, [.ref (g 1), .ref (g 2), .ref (g 4), .ref (g 16), .ref (g 64), .ref (g 65), .ref (g 66), .ref (g 70), .ref (g 75), .ref (g 87), .ref (g 94), .int 0, .int 0, .int 0])), ((g 16), .inr (1, [.ref (g 17), .ref (g 18), .ref (g 19), .ref (g 20), .ref (g 21), .ref (g 22), .ref (g 23), .ref (g 24), .ref (g 25), .ref (g 26), .ref (g 27)])), ((g 17), .inl ((a 17), 11, .inl (fun _ => 0)))] H := hP
  have hD : va_D A [((g 0), .inr (8, [.ref (g 1), .ref (g 2), .ref (g 4), .ref (g 16), .ref (g 64), .ref (g 65), .ref (g 66), .ref (g 70), .ref (g 75), .ref (g 87), .ref (g 94), .int 0, .int 0, .int 0])), ((g 16), .inr (1, [.ref (g 17), .ref (g 18), .ref (g 19), .ref (g 20), .ref (g 21), .ref (g 22), .ref (g 23), .ref (g 24), .ref (g 25), .ref (g 26), .ref (g 27)])), ((g 17), .inl ((a 17), 11, .inl (fun _ => 0)))] := hD
  have er : r = 0 := er
  subst er
  refine lv_if_ne (tgt := 13) hx hb dX8_gap_7 (by decide) (fun c2 => ?_) (fun c2 => ?_)
  · exact absurd c2 (by decide)
  · refine lv_bipush (v := (-2)) hx hb dX8_gap_10 (by decide) ?_
    exact e_i hx hb hr hlocks hP hD hS (fun _ => 0) [] rfl rfl rfl dX8_gap_12
set_option maxRecDepth 100000 in
set_option maxHeartbeats 4000000 in
theorem k_X9_gap (l : Launch) (dC : Nat → ClassId) (dI : Nat → Nat → Nat) (g : Nat → Nat) (a : Nat → ClassId)   : MI l dC dI yX9_gap (Cond.code yX9_gap cX9_gap 4 (some .int)) ({ frames := 3, cells := 0, slots := 0, locals := 65 }) [.ref (g 0)] [((a 1), .int), ((a 15), .int), ((a 17), .int), ((a 21), .boolean), ((a 16), .boolean)] [((g 0), .inr (9, oM g 0 0 0 0 0 0 (-1))), ((g 1), .inl ((a 1), 68, .inl (fun _ => 0))), ((g 15), .inl ((a 15), 6, .inl (fun _ => 0))), ((g 17), .inl ((a 17), 6, .inl (fun _ => 0))), ((g 21), .inl ((a 21), 60, .inl (fun _ => 0))), ((g 16), .inl ((a 16), 360, .inl (fun _ => 0)))] (fun r : Int32 => r = (-2)) (fun f => []) := by
  refine m_of (Qc := fun A => QI dC dI A (fun r : Int32 => r = (-2)) (fun f => [])) (lv := [(0, .ref (g 0))]) (by decide) (Nat.le_of_ble_eq_true rfl) rfl ?_
  intro p e s m below meth c A ls hx hb hr hml hT hown hlocks hname hP hK hD hS hA hl
  have hown : s.vm.findClass RX9 = some m.cls := hown
  refine lv_aload_n hx hb dX9_gap_0 rfl (lv_at hl 0 rfl) ?_
  refine c_Vi (C := RX9) (As := []) (rest := []) (wr := []) (n := 0) ⟨hx, hb, hml, hown, hT⟩ (k_X9_asksBrigade l dC dI g a ) hK hP hD hS hA [0, 1, 2, 3, 4] rfl [0, 1, 2, 3, 4, 5] [] rfl rfl rfl rfl (by decide) rfl rfl mw_130 mw_131 mw_132 mw_19 mw_133 (by decide +kernel) ⟨Nat.le_of_ble_eq_true rfl, Nat.le_of_ble_eq_true rfl⟩ ⟨rfl, rfl⟩ rfl hl.1 (Nat.le_of_ble_eq_true rfl) rfl dX9_gap_1 ⟨Nat.zero_le _, Nat.zero_le _⟩ (fun r f1 H locs er hP hD hS => ?_)
  have hP : va_P (dC, dI) vwCl [((g 0), .inr (9, oM g 0 0 0 0 0 0 (-1))), ((g 1), .inl ((a 1), 68, .inl (fun _ => 0))), ((g 15), .inl ((a 15), 6, .inl (fun _ => 0))), ((g 21), .inl ((a 21), 60, .inl (fun _ => 0))), ((g 16), .inl ((a 16), 360, .inl (fun _ => 0)))] H := hP
  have hD : va_D A [((g 0), .inr (9, oM g 0 0 0 0 0 0 (-1))), ((g 1), .inl ((a 1), 68, .inl (fun _ => 0))), ((g 15), .inl ((a 15), 6, .inl (fun _ => 0))), ((g 21), .inl ((a 21), 60, .inl (fun _ => 0))), ((g 16), .inl ((a 16), 360, .inl (fun _ => 0)))] := hD
  have er : r = 0 := er
  subst er
  refine lv_if_ne (tgt := 10) hx hb dX9_gap_4 (by decide) (fun c2 => ?_) (fun c2 => ?_)
  · exact absurd c2 (by decide)
  · refine lv_bipush (v := (-2)) hx hb dX9_gap_7 (by decide) ?_
    exact e_i hx hb hr hlocks hP hD hS (fun _ => 0) [] rfl rfl rfl dX9_gap_9
set_option maxRecDepth 100000 in
set_option maxHeartbeats 4000000 in
theorem k_X8_atSecond_7 (l : Launch) (dC : Nat → ClassId) (dI : Nat → Nat → Nat) (g : Nat → Nat) (a : Nat → ClassId) (p0 : Int32)  : MI l dC dI yX8_atSecond (Cond.code yX8_atSecond cX8_atSecond 3 (some .int)) ({ frames := 1, cells := 0, slots := 0, locals := 21 }) [.ref (g 0), .ref (g 79), .int p0] [((a 17), .int)] [((g 0), .inr (8, [.ref (g 1), .ref (g 2), .ref (g 4), .ref (g 16), .ref (g 64), .ref (g 65), .ref (g 66), .ref (g 70), .ref (g 75), .ref (g 87), .ref (g 94), .int 1, .int 0, .int 0])), ((g 16), .inr (1, [.ref (g 17), .ref (g 18), .ref (g 19), .ref (g 20), .ref (g 21), .ref (g 22), .ref (g 23), .ref (g 24), .ref (g 25), .ref (g 26), .ref (g 27)])), ((g 17), .inl ((a 17), 11, .inl (fun _ => 0)))] (fun r : Int32 => r = (-2)) (fun f => [((g 0), .inr (8, [.ref (g 1), .ref (g 2), .ref (g 4), .ref (g 16), .ref (g 64), .ref (g 65), .ref (g 66), .ref (g 70), .ref (g 75), .ref (g 87), .ref (g 94), .int 1, .int 0, .int 0])), ((g 16), .inr (1, [.ref (g 17), .ref (g 18), .ref (g 19), .ref (g 20), .ref (g 21), .ref (g 22), .ref (g 23), .ref (g 24), .ref (g 25), .ref (g 26), .ref (g 27)])), ((g 17), .inl ((a 17), 11, .inl (fun _ => 0)))]) := by
  refine m_of (Qc := fun A => QI dC dI A (fun r : Int32 => r = (-2)) (fun f => [((g 0), .inr (8, [.ref (g 1), .ref (g 2), .ref (g 4), .ref (g 16), .ref (g 64), .ref (g 65), .ref (g 66), .ref (g 70), .ref (g 75), .ref (g 87), .ref (g 94), .int 1, .int 0, .int 0])), ((g 16), .inr (1, [.ref (g 17), .ref (g 18), .ref (g 19), .ref (g 20), .ref (g 21), .ref (g 22), .ref (g 23), .ref (g 24), .ref (g 25), .ref (g 26), .ref (g 27)])), ((g 17), .inl ((a 17), 11, .inl (fun _ => 0)))])) (lv := [(0, .ref (g 0)), (1, .ref (g 79)), (2, .int p0)]) (by decide) (Nat.le_of_ble_eq_true rfl) rfl ?_
  intro p e s m below meth c A ls hx hb hr hml hT hown hlocks hname hP hK hD hS hA hl
  have hown : s.vm.findClass RX8 = some m.cls := hown
  refine lv_aload_n hx hb dX8_atSecond_0 rfl (lv_at hl 0 rfl) ?_
  refine va_get (D := (dC, dI)) (ci := 8) (v := .ref (g 16)) (C := RX8) (T := TX8) (N := 14) hx hb hT inT8 hown hK hP 0 rfl rfl 3 (by decide) (hT _ mw_45) (fun _ h9 => h9) rfl dX8_atSecond_1 ?_
  refine lv_iload_n hx hb dX8_atSecond_4 rfl (lv_at hl 2 rfl) ?_
  refine c_Vi (C := RX1) (As := [.int p0]) (rest := []) (wr := [((g 0), .inr (8, [.ref (g 1), .ref (g 2), .ref (g 4), .ref (g 16), .ref (g 64), .ref (g 65), .ref (g 66), .ref (g 70), .ref (g 75), .ref (g 87), .ref (g 94), .int 1, .int 0, .int 0]))]) (n := 1) ⟨hx, hb, hml, hown, hT⟩ (k_X1_hasSecond l dC dI g a p0) hK hP hD hS hA [0] rfl [1, 2] [0] rfl rfl rfl rfl (by decide) rfl rfl mw_184 mw_185 mw_186 mw_27 mw_187 (by decide +kernel) ⟨Nat.le_of_ble_eq_true rfl, Nat.le_of_ble_eq_true rfl⟩ ⟨rfl, rfl⟩ rfl hl.1 (Nat.le_of_ble_eq_true rfl) rfl dX8_atSecond_5 ⟨Nat.zero_le _, Nat.zero_le _⟩ (fun r f1 H locs er hP hD hS => ?_)
  have hP : va_P (dC, dI) vwCl [((g 0), .inr (8, [.ref (g 1), .ref (g 2), .ref (g 4), .ref (g 16), .ref (g 64), .ref (g 65), .ref (g 66), .ref (g 70), .ref (g 75), .ref (g 87), .ref (g 94), .int 1, .int 0, .int 0])), ((g 16), .inr (1, [.ref (g 17), .ref (g 18), .ref (g 19), .ref (g 20), .ref (g 21), .ref (g 22), .ref (g 23), .ref (g 24), .ref (g 25), .ref (g 26), .ref (g 27)])), ((g 17), .inl ((a 17), 11, .inl (fun _ => 0)))] H := hP
  have hD : va_D A [((g 0), .inr (8, [.ref (g 1), .ref (g 2), .ref (g 4), .ref (g 16), .ref (g 64), .ref (g 65), .ref (g 66), .ref (g 70), .ref (g 75), .ref (g 87), .ref (g 94), .int 1, .int 0, .int 0])), ((g 16), .inr (1, [.ref (g 17), .ref (g 18), .ref (g 19), .ref (g 20), .ref (g 21), .ref (g 22), .ref (g 23), .ref (g 24), .ref (g 25), .ref (g 26), .ref (g 27)])), ((g 17), .inl ((a 17), 11, .inl (fun _ => 0)))] := hD
  have er : r = 0 := er
  subst er
  refine lv_if_eq (tgt := 17) hx hb dX8_atSecond_8 (by decide) (fun c2 => ?_) (fun c2 => ?_)
  · refine lv_bipush (v := (-2)) hx hb dX8_atSecond_17 (by decide) ?_
    exact e_i hx hb hr hlocks hP hD hS (fun _ => 0) [0, 1, 2] rfl rfl rfl dX8_atSecond_19
  · exact absurd c2 (by decide)
set_option maxRecDepth 100000 in
set_option maxHeartbeats 4000000 in
theorem k_X8_ready (l : Launch) (dC : Nat → ClassId) (dI : Nat → Nat → Nat) (g : Nat → Nat) (a : Nat → ClassId) (p0 : Int32)  : MI l dC dI yX8_ready (Cond.code yX8_ready cX8_ready 2 (some .int)) ({ frames := 4, cells := 0, slots := 0, locals := 87 }) [.ref (g 0), .int p0] [((a 17), .int), ((a 86), .int), ((a 74), .int)] [((g 0), .inr (8, [.ref (g 1), .ref (g 2), .ref (g 4), .ref (g 16), .ref (g 64), .ref (g 65), .ref (g 66), .ref (g 70), .ref (g 75), .ref (g 87), .ref (g 94), .int 0, .int 0, .int 0])), ((g 70), .inr (2, [.ref (g 71), .ref (g 72), .ref (g 73), .ref (g 74), .int 0, .int 0, .int 0, .int 0, .int 0, .int 0])), ((g 16), .inr (1, [.ref (g 17), .ref (g 18), .ref (g 19), .ref (g 20), .ref (g 21), .ref (g 22), .ref (g 23), .ref (g 24), .ref (g 25), .ref (g 26), .ref (g 27)])), ((g 17), .inl ((a 17), 11, .inl (fun _ => 0))), ((g 75), .inr (6, [.ref (g 76), .ref (g 77), .ref (g 78), .ref (g 79), .ref (g 80), .ref (g 81), .ref (g 82), .ref (g 83), .ref (g 84), .ref (g 85), .ref (g 86), .long 0, .int 0])), ((g 86), .inl ((a 86), 7, .inl (fun _ => 0))), ((g 74), .inl ((a 74), 6, .inl (fun _ => 0)))] (fun r : Int32 => r = (-2)) (fun f => []) := by
  refine m_of (Qc := fun A => QI dC dI A (fun r : Int32 => r = (-2)) (fun f => [])) (lv := [(0, .ref (g 0)), (1, .int p0)]) (by decide) (Nat.le_of_ble_eq_true rfl) rfl ?_
  intro p e s m below meth c A ls hx hb hr hml hT hown hlocks hname hP hK hD hS hA hl
  have hown : s.vm.findClass RX8 = some m.cls := hown
  refine lv_aload_n hx hb dX8_ready_0 rfl (lv_at hl 0 rfl) ?_
  refine lv_aload_n hx hb dX8_ready_1 rfl (lv_at hl 0 rfl) ?_
  refine c_Vr (C := RX8) (As := []) (rest := [.ref (g 0)]) (wr := []) (n := 0) ⟨hx, hb, hml, hown, hT⟩ (k_X8_told l dC dI g a ) hK hP hD hS hA [0, 1, 2] rfl [0, 1, 2, 3, 4, 5, 6] [] rfl rfl rfl rfl (by decide) rfl rfl mw_179 mw_180 mw_181 mw_69 mw_182 (by decide +kernel) ⟨Nat.le_of_ble_eq_true rfl, Nat.le_of_ble_eq_true rfl⟩ ⟨rfl, rfl⟩ rfl hl.1 (Nat.le_of_ble_eq_true rfl) rfl dX8_ready_2 ⟨Nat.zero_le _, Nat.zero_le _⟩ (fun f1 H locs hP hD hS => ?_)
  have hP : va_P (dC, dI) vwCl [((g 0), .inr (8, [.ref (g 1), .ref (g 2), .ref (g 4), .ref (g 16), .ref (g 64), .ref (g 65), .ref (g 66), .ref (g 70), .ref (g 75), .ref (g 87), .ref (g 94), .int 1, .int 0, .int 0])), ((g 70), .inr (2, [.ref (g 71), .ref (g 72), .ref (g 73), .ref (g 74), .int 0, .int 0, .int 0, .int 0, .int 0, .int 0])), ((g 16), .inr (1, [.ref (g 17), .ref (g 18), .ref (g 19), .ref (g 20), .ref (g 21), .ref (g 22), .ref (g 23), .ref (g 24), .ref (g 25), .ref (g 26), .ref (g 27)])), ((g 17), .inl ((a 17), 11, .inl (fun _ => 0))), ((g 75), .inr (6, [.ref (g 76), .ref (g 77), .ref (g 78), .ref (g 79), .ref (g 80), .ref (g 81), .ref (g 82), .ref (g 83), .ref (g 84), .ref (g 85), .ref (g 86), .long 0, .int 0])), ((g 86), .inl ((a 86), 7, .inl (fun _ => 0))), ((g 74), .inl ((a 74), 6, .inl (fun _ => 0)))] H := hP
  have hD : va_D A [((g 0), .inr (8, [.ref (g 1), .ref (g 2), .ref (g 4), .ref (g 16), .ref (g 64), .ref (g 65), .ref (g 66), .ref (g 70), .ref (g 75), .ref (g 87), .ref (g 94), .int 1, .int 0, .int 0])), ((g 70), .inr (2, [.ref (g 71), .ref (g 72), .ref (g 73), .ref (g 74), .int 0, .int 0, .int 0, .int 0, .int 0, .int 0])), ((g 16), .inr (1, [.ref (g 17), .ref (g 18), .ref (g 19), .ref (g 20), .ref (g 21), .ref (g 22), .ref (g 23), .ref (g 24), .ref (g 25), .ref (g 26), .ref (g 27)])), ((g 17), .inl ((a 17), 11, .inl (fun _ => 0))), ((g 75), .inr (6, [.ref (g 76), .ref (g 77), .ref (g 78), .ref (g 79), .ref (g 80), .ref (g 81), .ref (g 82), .ref (g 83), .ref (g 84), .ref (g 85), .ref (g 86), .long 0, .int 0])), ((g 86), .inl ((a 86), 7, .inl (fun _ => 0))), ((g 74), .inl ((a 74), 6, .inl (fun _ => 0)))] := hD
  refine va_get (D := (dC, dI)) (ci := 6) (v := .ref (g 79)) (C := RX6) (T := TX6) (N := 13) hx hb hT inT6 hown hK hP 4 rfl rfl 3 (by decide) (hT _ mw_205) (fun _ h9 => h9) rfl dX8_ready_5 ?_
  refine lv_iload_n hx hb dX8_ready_8 rfl (lv_at hl 1 rfl) ?_
  refine c_Vi (C := RX8) (As := [.ref (g 79), .int p0]) (rest := []) (wr := [((g 70), .inr (2, [.ref (g 71), .ref (g 72), .ref (g 73), .ref (g 74), .int 0, .int 0, .int 0, .int 0, .int 0, .int 0])), ((g 75), .inr (6, [.ref (g 76), .ref (g 77), .ref (g 78), .ref (g 79), .ref (g 80), .ref (g 81), .ref (g 82), .ref (g 83), .ref (g 84), .ref (g 85), .ref (g 86), .long 0, .int 0])), ((g 86), .inl ((a 86), 7, .inl (fun _ => 0))), ((g 74), .inl ((a 74), 6, .inl (fun _ => 0)))]) (n := 2) ⟨hx, hb, hml, hown, hT⟩ (k_X8_atSecond_7 l dC dI g a p0) hK hP hD hS hA [0] rfl [0, 2, 3] [1, 4, 5, 6] rfl rfl rfl rfl (by decide) rfl rfl mw_188 mw_189 mw_190 mw_69 mw_191 (by decide +kernel) ⟨Nat.le_of_ble_eq_true rfl, Nat.le_of_ble_eq_true rfl⟩ ⟨rfl, rfl⟩ rfl hl.1 (Nat.le_of_ble_eq_true rfl) rfl dX8_ready_9 ⟨Nat.zero_le _, Nat.zero_le _⟩ (fun r f2 H locs er hP hD hS => ?_)
  have hP : va_P (dC, dI) vwCl [((g 70), .inr (2, [.ref (g 71), .ref (g 72), .ref (g 73), .ref (g 74), .int 0, .int 0, .int 0, .int 0, .int 0, .int 0])), ((g 75), .inr (6, [.ref (g 76), .ref (g 77), .ref (g 78), .ref (g 79), .ref (g 80), .ref (g 81), .ref (g 82), .ref (g 83), .ref (g 84), .ref (g 85), .ref (g 86), .long 0, .int 0])), ((g 86), .inl ((a 86), 7, .inl (fun _ => 0))), ((g 74), .inl ((a 74), 6, .inl (fun _ => 0))), ((g 0), .inr (8, [.ref (g 1), .ref (g 2), .ref (g 4), .ref (g 16), .ref (g 64), .ref (g 65), .ref (g 66), .ref (g 70), .ref (g 75), .ref (g 87), .ref (g 94), .int 1, .int 0, .int 0])), ((g 16), .inr (1, [.ref (g 17), .ref (g 18), .ref (g 19), .ref (g 20), .ref (g 21), .ref (g 22), .ref (g 23), .ref (g 24), .ref (g 25), .ref (g 26), .ref (g 27)])), ((g 17), .inl ((a 17), 11, .inl (fun _ => 0)))] H := hP
  have hD : va_D A [((g 70), .inr (2, [.ref (g 71), .ref (g 72), .ref (g 73), .ref (g 74), .int 0, .int 0, .int 0, .int 0, .int 0, .int 0])), ((g 75), .inr (6, [.ref (g 76), .ref (g 77), .ref (g 78), .ref (g 79), .ref (g 80), .ref (g 81), .ref (g 82), .ref (g 83), .ref (g 84), .ref (g 85), .ref (g 86), .long 0, .int 0])), ((g 86), .inl ((a 86), 7, .inl (fun _ => 0))), ((g 74), .inl ((a 74), 6, .inl (fun _ => 0))), ((g 0), .inr (8, [.ref (g 1), .ref (g 2), .ref (g 4), .ref (g 16), .ref (g 64), .ref (g 65), .ref (g 66), .ref (g 70), .ref (g 75), .ref (g 87), .ref (g 94), .int 1, .int 0, .int 0])), ((g 16), .inr (1, [.ref (g 17), .ref (g 18), .ref (g 19), .ref (g 20), .ref (g 21), .ref (g 22), .ref (g 23), .ref (g 24), .ref (g 25), .ref (g 26), .ref (g 27)])), ((g 17), .inl ((a 17), 11, .inl (fun _ => 0)))] := hD
  have er : r = (-2) := er
  subst er
  exact e_i hx hb hr hlocks hP hD hS (fun _ => 0) [] rfl rfl rfl dX8_ready_12
set_option maxRecDepth 100000 in
set_option maxHeartbeats 4000000 in
theorem k_X9_ready (l : Launch) (dC : Nat → ClassId) (dI : Nat → Nat → Nat) (g : Nat → Nat) (a : Nat → ClassId) (p0 : Int32)  : MI l dC dI yX9_ready (Cond.code yX9_ready cX9_ready 4 (some .int)) ({ frames := 4, cells := 0, slots := 0, locals := 86 }) [.ref (g 0), .int p0] [((a 1), .int), ((a 15), .int), ((a 17), .int), ((a 21), .boolean), ((a 16), .boolean)] [((g 0), .inr (9, oM g 0 0 0 0 0 0 (-1))), ((g 1), .inl ((a 1), 68, .inl (fun _ => 0))), ((g 15), .inl ((a 15), 6, .inl (fun _ => 0))), ((g 17), .inl ((a 17), 6, .inl (fun _ => 0))), ((g 21), .inl ((a 21), 60, .inl (fun _ => 0))), ((g 16), .inl ((a 16), 360, .inl (fun _ => 0)))] (fun r : Int32 => r = (-2)) (fun f => []) := by
  refine m_of (Qc := fun A => QI dC dI A (fun r : Int32 => r = (-2)) (fun f => [])) (lv := [(0, .ref (g 0)), (1, .int p0)]) (by decide) (Nat.le_of_ble_eq_true rfl) rfl ?_
  intro p e s m below meth c A ls hx hb hr hml hT hown hlocks hname hP hK hD hS hA hl
  have hown : s.vm.findClass RX9 = some m.cls := hown
  refine lv_aload_n hx hb dX9_ready_0 rfl (lv_at hl 0 rfl) ?_
  refine lv_iload_n hx hb dX9_ready_1 rfl (lv_at hl 1 rfl) ?_
  refine c_Vi (C := RX9) (As := [.int p0]) (rest := []) (wr := []) (n := 1) ⟨hx, hb, hml, hown, hT⟩ (k_X9_asksSecond l dC dI g a p0) hK hP hD hS hA [0, 1, 2, 3, 4] rfl [0, 1, 2, 3, 4, 5] [] rfl rfl rfl rfl (by decide) rfl rfl mw_134 mw_135 mw_136 mw_19 mw_137 (by decide +kernel) ⟨Nat.le_of_ble_eq_true rfl, Nat.le_of_ble_eq_true rfl⟩ ⟨rfl, rfl⟩ rfl hl.1 (Nat.le_of_ble_eq_true rfl) rfl dX9_ready_2 ⟨Nat.zero_le _, Nat.zero_le _⟩ (fun r f1 H locs er hP hD hS => ?_)
  have hP : va_P (dC, dI) vwCl [((g 0), .inr (9, oM g 0 0 0 0 0 0 (-1))), ((g 1), .inl ((a 1), 68, .inl (fun _ => 0))), ((g 15), .inl ((a 15), 6, .inl (fun _ => 0))), ((g 21), .inl ((a 21), 60, .inl (fun _ => 0))), ((g 16), .inl ((a 16), 360, .inl (fun _ => 0)))] H := hP
  have hD : va_D A [((g 0), .inr (9, oM g 0 0 0 0 0 0 (-1))), ((g 1), .inl ((a 1), 68, .inl (fun _ => 0))), ((g 15), .inl ((a 15), 6, .inl (fun _ => 0))), ((g 21), .inl ((a 21), 60, .inl (fun _ => 0))), ((g 16), .inl ((a 16), 360, .inl (fun _ => 0)))] := hD
  have er : r = 0 := er
  subst er
  refine lv_if_ne (tgt := 11) hx hb dX9_ready_5 (by decide) (fun c2 => ?_) (fun c2 => ?_)
  · exact absurd c2 (by decide)
  · refine lv_bipush (v := (-2)) hx hb dX9_ready_8 (by decide) ?_
    exact e_i hx hb hr hlocks hP hD hS (fun _ => 0) [] rfl rfl rfl dX9_ready_10
set_option maxRecDepth 100000 in
set_option maxHeartbeats 4000000 in
theorem k_X8_crowded (l : Launch) (dC : Nat → ClassId) (dI : Nat → Nat → Nat) (g : Nat → Nat) (a : Nat → ClassId)   : MI l dC dI yX8_crowded (Cond.code yX8_crowded cX8_crowded 3 (some .int)) ({ frames := 1, cells := 0, slots := 0, locals := 20 }) [.ref (g 0)] [((a 17), .int)] [((g 0), .inr (8, [.ref (g 1), .ref (g 2), .ref (g 4), .ref (g 16), .ref (g 64), .ref (g 65), .ref (g 66), .ref (g 70), .ref (g 75), .ref (g 87), .ref (g 94), .int 0, .int 0, .int 0])), ((g 16), .inr (1, [.ref (g 17), .ref (g 18), .ref (g 19), .ref (g 20), .ref (g 21), .ref (g 22), .ref (g 23), .ref (g 24), .ref (g 25), .ref (g 26), .ref (g 27)])), ((g 17), .inl ((a 17), 11, .inl (fun _ => 0)))] (fun r : Int32 => r = (-2)) (fun f => []) := by
  refine m_of (Qc := fun A => QI dC dI A (fun r : Int32 => r = (-2)) (fun f => [])) (lv := [(0, .ref (g 0))]) (by decide) (Nat.le_of_ble_eq_true rfl) rfl ?_
  intro p e s m below meth c A ls hx hb hr hml hT hown hlocks hname hP hK hD hS hA hl
  have hown : s.vm.findClass RX8 = some m.cls := hown
  refine lv_aload_n hx hb dX8_crowded_0 rfl (lv_at hl 0 rfl) ?_
  refine va_get (D := (dC, dI)) (ci := 8) (v := .ref (g 16)) (C := RX8) (T := TX8) (N := 14) hx hb hT inT8 hown hK hP 0 rfl rfl 3 (by decide) (hT _ mw_45) (fun _ h9 => h9) rfl dX8_crowded_1 ?_
  refine c_Vi (C := RX1) (As := []) (rest := []) (wr := [((g 0), .inr (8, [.ref (g 1), .ref (g 2), .ref (g 4), .ref (g 16), .ref (g 64), .ref (g 65), .ref (g 66), .ref (g 70), .ref (g 75), .ref (g 87), .ref (g 94), .int 0, .int 0, .int 0]))]) (n := 0) ⟨hx, hb, hml, hown, hT⟩ (k_X1_stands l dC dI g a ) hK hP hD hS hA [0] rfl [1, 2] [0] rfl rfl rfl rfl (by decide) rfl rfl mw_201 mw_202 mw_203 mw_27 mw_204 (by decide +kernel) ⟨Nat.le_of_ble_eq_true rfl, Nat.le_of_ble_eq_true rfl⟩ ⟨rfl, rfl⟩ rfl hl.1 (Nat.le_of_ble_eq_true rfl) rfl dX8_crowded_4 ⟨Nat.zero_le _, Nat.zero_le _⟩ (fun r f1 H locs er hP hD hS => ?_)
  have hP : va_P (dC, dI) vwCl [((g 0), .inr (8, [.ref (g 1), .ref (g 2), .ref (g 4), .ref (g 16), .ref (g 64), .ref (g 65), .ref (g 66), .ref (g 70), .ref (g 75), .ref (g 87), .ref (g 94), .int 0, .int 0, .int 0])), ((g 16), .inr (1, [.ref (g 17), .ref (g 18), .ref (g 19), .ref (g 20), .ref (g 21), .ref (g 22), .ref (g 23), .ref (g 24), .ref (g 25), .ref (g 26), .ref (g 27)])), ((g 17), .inl ((a 17), 11, .inl (fun _ => 0)))] H := hP
  have hD : va_D A [((g 0), .inr (8, [.ref (g 1), .ref (g 2), .ref (g 4), .ref (g 16), .ref (g 64), .ref (g 65), .ref (g 66), .ref (g 70), .ref (g 75), .ref (g 87), .ref (g 94), .int 0, .int 0, .int 0])), ((g 16), .inr (1, [.ref (g 17), .ref (g 18), .ref (g 19), .ref (g 20), .ref (g 21), .ref (g 22), .ref (g 23), .ref (g 24), .ref (g 25), .ref (g 26), .ref (g 27)])), ((g 17), .inl ((a 17), 11, .inl (fun _ => 0)))] := hD
  have er : r = 0 := er
  subst er
  refine lv_if_ne (tgt := 13) hx hb dX8_crowded_7 (by decide) (fun c2 => ?_) (fun c2 => ?_)
  · exact absurd c2 (by decide)
  · refine lv_bipush (v := (-2)) hx hb dX8_crowded_10 (by decide) ?_
    exact e_i hx hb hr hlocks hP hD hS (fun _ => 0) [] rfl rfl rfl dX8_crowded_12
set_option maxRecDepth 100000 in
set_option maxHeartbeats 4000000 in
theorem k_X9_crowded (l : Launch) (dC : Nat → ClassId) (dI : Nat → Nat → Nat) (g : Nat → Nat) (a : Nat → ClassId)   : MI l dC dI yX9_crowded (Cond.code yX9_crowded cX9_crowded 2 (some .int)) ({ frames := 3, cells := 0, slots := 0, locals := 65 }) [.ref (g 0)] [((a 1), .int), ((a 15), .int), ((a 17), .int), ((a 21), .boolean), ((a 16), .boolean)] [((g 0), .inr (9, oM g 0 0 0 0 0 0 (-1))), ((g 1), .inl ((a 1), 68, .inl (fun _ => 0))), ((g 15), .inl ((a 15), 6, .inl (fun _ => 0))), ((g 17), .inl ((a 17), 6, .inl (fun _ => 0))), ((g 21), .inl ((a 21), 60, .inl (fun _ => 0))), ((g 16), .inl ((a 16), 360, .inl (fun _ => 0)))] (fun r : Int32 => r = (-2)) (fun f => []) := by
  refine m_of (Qc := fun A => QI dC dI A (fun r : Int32 => r = (-2)) (fun f => [])) (lv := [(0, .ref (g 0))]) (by decide) (Nat.le_of_ble_eq_true rfl) rfl ?_
  intro p e s m below meth c A ls hx hb hr hml hT hown hlocks hname hP hK hD hS hA hl
  have hown : s.vm.findClass RX9 = some m.cls := hown
  refine lv_aload_n hx hb dX9_crowded_0 rfl (lv_at hl 0 rfl) ?_
  refine c_Vi (C := RX9) (As := []) (rest := []) (wr := []) (n := 0) ⟨hx, hb, hml, hown, hT⟩ (k_X9_asksBrigade l dC dI g a ) hK hP hD hS hA [0, 1, 2, 3, 4] rfl [0, 1, 2, 3, 4, 5] [] rfl rfl rfl rfl (by decide) rfl rfl mw_130 mw_131 mw_132 mw_19 mw_133 (by decide +kernel) ⟨Nat.le_of_ble_eq_true rfl, Nat.le_of_ble_eq_true rfl⟩ ⟨rfl, rfl⟩ rfl hl.1 (Nat.le_of_ble_eq_true rfl) rfl dX9_crowded_1 ⟨Nat.zero_le _, Nat.zero_le _⟩ (fun r f1 H locs er hP hD hS => ?_)
  have hP : va_P (dC, dI) vwCl [((g 0), .inr (9, oM g 0 0 0 0 0 0 (-1))), ((g 1), .inl ((a 1), 68, .inl (fun _ => 0))), ((g 15), .inl ((a 15), 6, .inl (fun _ => 0))), ((g 21), .inl ((a 21), 60, .inl (fun _ => 0))), ((g 16), .inl ((a 16), 360, .inl (fun _ => 0)))] H := hP
  have hD : va_D A [((g 0), .inr (9, oM g 0 0 0 0 0 0 (-1))), ((g 1), .inl ((a 1), 68, .inl (fun _ => 0))), ((g 15), .inl ((a 15), 6, .inl (fun _ => 0))), ((g 21), .inl ((a 21), 60, .inl (fun _ => 0))), ((g 16), .inl ((a 16), 360, .inl (fun _ => 0)))] := hD
  have er : r = 0 := er
  subst er
  refine lv_if_ne (tgt := 10) hx hb dX9_crowded_4 (by decide) (fun c2 => ?_) (fun c2 => ?_)
  · exact absurd c2 (by decide)
  · refine lv_bipush (v := (-2)) hx hb dX9_crowded_7 (by decide) ?_
    exact e_i hx hb hr hlocks hP hD hS (fun _ => 0) [] rfl rfl rfl dX9_crowded_9
set_option maxRecDepth 100000 in
set_option maxHeartbeats 4000000 in
theorem k_X8_atSecond_8 (l : Launch) (dC : Nat → ClassId) (dI : Nat → Nat → Nat) (g : Nat → Nat) (a : Nat → ClassId) (p0 : Int32)  : MI l dC dI yX8_atSecond (Cond.code yX8_atSecond cX8_atSecond 3 (some .int)) ({ frames := 1, cells := 0, slots := 0, locals := 21 }) [.ref (g 0), .ref (g 82), .int p0] [((a 17), .int)] [((g 0), .inr (8, [.ref (g 1), .ref (g 2), .ref (g 4), .ref (g 16), .ref (g 64), .ref (g 65), .ref (g 66), .ref (g 70), .ref (g 75), .ref (g 87), .ref (g 94), .int 1, .int 0, .int 0])), ((g 16), .inr (1, [.ref (g 17), .ref (g 18), .ref (g 19), .ref (g 20), .ref (g 21), .ref (g 22), .ref (g 23), .ref (g 24), .ref (g 25), .ref (g 26), .ref (g 27)])), ((g 17), .inl ((a 17), 11, .inl (fun _ => 0)))] (fun r : Int32 => r = (-2)) (fun f => [((g 0), .inr (8, [.ref (g 1), .ref (g 2), .ref (g 4), .ref (g 16), .ref (g 64), .ref (g 65), .ref (g 66), .ref (g 70), .ref (g 75), .ref (g 87), .ref (g 94), .int 1, .int 0, .int 0])), ((g 16), .inr (1, [.ref (g 17), .ref (g 18), .ref (g 19), .ref (g 20), .ref (g 21), .ref (g 22), .ref (g 23), .ref (g 24), .ref (g 25), .ref (g 26), .ref (g 27)])), ((g 17), .inl ((a 17), 11, .inl (fun _ => 0)))]) := by
  refine m_of (Qc := fun A => QI dC dI A (fun r : Int32 => r = (-2)) (fun f => [((g 0), .inr (8, [.ref (g 1), .ref (g 2), .ref (g 4), .ref (g 16), .ref (g 64), .ref (g 65), .ref (g 66), .ref (g 70), .ref (g 75), .ref (g 87), .ref (g 94), .int 1, .int 0, .int 0])), ((g 16), .inr (1, [.ref (g 17), .ref (g 18), .ref (g 19), .ref (g 20), .ref (g 21), .ref (g 22), .ref (g 23), .ref (g 24), .ref (g 25), .ref (g 26), .ref (g 27)])), ((g 17), .inl ((a 17), 11, .inl (fun _ => 0)))])) (lv := [(0, .ref (g 0)), (1, .ref (g 82)), (2, .int p0)]) (by decide) (Nat.le_of_ble_eq_true rfl) rfl ?_
  intro p e s m below meth c A ls hx hb hr hml hT hown hlocks hname hP hK hD hS hA hl
  have hown : s.vm.findClass RX8 = some m.cls := hown
  refine lv_aload_n hx hb dX8_atSecond_0 rfl (lv_at hl 0 rfl) ?_
  refine va_get (D := (dC, dI)) (ci := 8) (v := .ref (g 16)) (C := RX8) (T := TX8) (N := 14) hx hb hT inT8 hown hK hP 0 rfl rfl 3 (by decide) (hT _ mw_45) (fun _ h9 => h9) rfl dX8_atSecond_1 ?_
  refine lv_iload_n hx hb dX8_atSecond_4 rfl (lv_at hl 2 rfl) ?_
  refine c_Vi (C := RX1) (As := [.int p0]) (rest := []) (wr := [((g 0), .inr (8, [.ref (g 1), .ref (g 2), .ref (g 4), .ref (g 16), .ref (g 64), .ref (g 65), .ref (g 66), .ref (g 70), .ref (g 75), .ref (g 87), .ref (g 94), .int 1, .int 0, .int 0]))]) (n := 1) ⟨hx, hb, hml, hown, hT⟩ (k_X1_hasSecond l dC dI g a p0) hK hP hD hS hA [0] rfl [1, 2] [0] rfl rfl rfl rfl (by decide) rfl rfl mw_184 mw_185 mw_186 mw_27 mw_187 (by decide +kernel) ⟨Nat.le_of_ble_eq_true rfl, Nat.le_of_ble_eq_true rfl⟩ ⟨rfl, rfl⟩ rfl hl.1 (Nat.le_of_ble_eq_true rfl) rfl dX8_atSecond_5 ⟨Nat.zero_le _, Nat.zero_le _⟩ (fun r f1 H locs er hP hD hS => ?_)
  have hP : va_P (dC, dI) vwCl [((g 0), .inr (8, [.ref (g 1), .ref (g 2), .ref (g 4), .ref (g 16), .ref (g 64), .ref (g 65), .ref (g 66), .ref (g 70), .ref (g 75), .ref (g 87), .ref (g 94), .int 1, .int 0, .int 0])), ((g 16), .inr (1, [.ref (g 17), .ref (g 18), .ref (g 19), .ref (g 20), .ref (g 21), .ref (g 22), .ref (g 23), .ref (g 24), .ref (g 25), .ref (g 26), .ref (g 27)])), ((g 17), .inl ((a 17), 11, .inl (fun _ => 0)))] H := hP
  have hD : va_D A [((g 0), .inr (8, [.ref (g 1), .ref (g 2), .ref (g 4), .ref (g 16), .ref (g 64), .ref (g 65), .ref (g 66), .ref (g 70), .ref (g 75), .ref (g 87), .ref (g 94), .int 1, .int 0, .int 0])), ((g 16), .inr (1, [.ref (g 17), .ref (g 18), .ref (g 19), .ref (g 20), .ref (g 21), .ref (g 22), .ref (g 23), .ref (g 24), .ref (g 25), .ref (g 26), .ref (g 27)])), ((g 17), .inl ((a 17), 11, .inl (fun _ => 0)))] := hD
  have er : r = 0 := er
  subst er
  refine lv_if_eq (tgt := 17) hx hb dX8_atSecond_8 (by decide) (fun c2 => ?_) (fun c2 => ?_)
  · refine lv_bipush (v := (-2)) hx hb dX8_atSecond_17 (by decide) ?_
    exact e_i hx hb hr hlocks hP hD hS (fun _ => 0) [0, 1, 2] rfl rfl rfl dX8_atSecond_19
  · exact absurd c2 (by decide)
set_option maxRecDepth 100000 in
set_option maxHeartbeats 4000000 in
theorem k_X8_road (l : Launch) (dC : Nat → ClassId) (dI : Nat → Nat → Nat) (g : Nat → Nat) (a : Nat → ClassId) (p0 : Int32)  : MI l dC dI yX8_road (Cond.code yX8_road cX8_road 2 (some .int)) ({ frames := 4, cells := 0, slots := 0, locals := 87 }) [.ref (g 0), .int p0] [((a 17), .int), ((a 86), .int), ((a 74), .int)] [((g 0), .inr (8, [.ref (g 1), .ref (g 2), .ref (g 4), .ref (g 16), .ref (g 64), .ref (g 65), .ref (g 66), .ref (g 70), .ref (g 75), .ref (g 87), .ref (g 94), .int 0, .int 0, .int 0])), ((g 70), .inr (2, [.ref (g 71), .ref (g 72), .ref (g 73), .ref (g 74), .int 0, .int 0, .int 0, .int 0, .int 0, .int 0])), ((g 16), .inr (1, [.ref (g 17), .ref (g 18), .ref (g 19), .ref (g 20), .ref (g 21), .ref (g 22), .ref (g 23), .ref (g 24), .ref (g 25), .ref (g 26), .ref (g 27)])), ((g 17), .inl ((a 17), 11, .inl (fun _ => 0))), ((g 75), .inr (6, [.ref (g 76), .ref (g 77), .ref (g 78), .ref (g 79), .ref (g 80), .ref (g 81), .ref (g 82), .ref (g 83), .ref (g 84), .ref (g 85), .ref (g 86), .long 0, .int 0])), ((g 86), .inl ((a 86), 7, .inl (fun _ => 0))), ((g 74), .inl ((a 74), 6, .inl (fun _ => 0)))] (fun r : Int32 => r = (-2)) (fun f => []) := by
  refine m_of (Qc := fun A => QI dC dI A (fun r : Int32 => r = (-2)) (fun f => [])) (lv := [(0, .ref (g 0)), (1, .int p0)]) (by decide) (Nat.le_of_ble_eq_true rfl) rfl ?_
  intro p e s m below meth c A ls hx hb hr hml hT hown hlocks hname hP hK hD hS hA hl
  have hown : s.vm.findClass RX8 = some m.cls := hown
  refine lv_aload_n hx hb dX8_road_0 rfl (lv_at hl 0 rfl) ?_
  refine lv_aload_n hx hb dX8_road_1 rfl (lv_at hl 0 rfl) ?_
  refine c_Vr (C := RX8) (As := []) (rest := [.ref (g 0)]) (wr := []) (n := 0) ⟨hx, hb, hml, hown, hT⟩ (k_X8_told l dC dI g a ) hK hP hD hS hA [0, 1, 2] rfl [0, 1, 2, 3, 4, 5, 6] [] rfl rfl rfl rfl (by decide) rfl rfl mw_179 mw_180 mw_181 mw_69 mw_182 (by decide +kernel) ⟨Nat.le_of_ble_eq_true rfl, Nat.le_of_ble_eq_true rfl⟩ ⟨rfl, rfl⟩ rfl hl.1 (Nat.le_of_ble_eq_true rfl) rfl dX8_road_2 ⟨Nat.zero_le _, Nat.zero_le _⟩ (fun f1 H locs hP hD hS => ?_)
  have hP : va_P (dC, dI) vwCl [((g 0), .inr (8, [.ref (g 1), .ref (g 2), .ref (g 4), .ref (g 16), .ref (g 64), .ref (g 65), .ref (g 66), .ref (g 70), .ref (g 75), .ref (g 87), .ref (g 94), .int 1, .int 0, .int 0])), ((g 70), .inr (2, [.ref (g 71), .ref (g 72), .ref (g 73), .ref (g 74), .int 0, .int 0, .int 0, .int 0, .int 0, .int 0])), ((g 16), .inr (1, [.ref (g 17), .ref (g 18), .ref (g 19), .ref (g 20), .ref (g 21), .ref (g 22), .ref (g 23), .ref (g 24), .ref (g 25), .ref (g 26), .ref (g 27)])), ((g 17), .inl ((a 17), 11, .inl (fun _ => 0))), ((g 75), .inr (6, [.ref (g 76), .ref (g 77), .ref (g 78), .ref (g 79), .ref (g 80), .ref (g 81), .ref (g 82), .ref (g 83), .ref (g 84), .ref (g 85), .ref (g 86), .long 0, .int 0])), ((g 86), .inl ((a 86), 7, .inl (fun _ => 0))), ((g 74), .inl ((a 74), 6, .inl (fun _ => 0)))] H := hP
  have hD : va_D A [((g 0), .inr (8, [.ref (g 1), .ref (g 2), .ref (g 4), .ref (g 16), .ref (g 64), .ref (g 65), .ref (g 66), .ref (g 70), .ref (g 75), .ref (g 87), .ref (g 94), .int 1, .int 0, .int 0])), ((g 70), .inr (2, [.ref (g 71), .ref (g 72), .ref (g 73), .ref (g 74), .int 0, .int 0, .int 0, .int 0, .int 0, .int 0])), ((g 16), .inr (1, [.ref (g 17), .ref (g 18), .ref (g 19), .ref (g 20), .ref (g 21), .ref (g 22), .ref (g 23), .ref (g 24), .ref (g 25), .ref (g 26), .ref (g 27)])), ((g 17), .inl ((a 17), 11, .inl (fun _ => 0))), ((g 75), .inr (6, [.ref (g 76), .ref (g 77), .ref (g 78), .ref (g 79), .ref (g 80), .ref (g 81), .ref (g 82), .ref (g 83), .ref (g 84), .ref (g 85), .ref (g 86), .long 0, .int 0])), ((g 86), .inl ((a 86), 7, .inl (fun _ => 0))), ((g 74), .inl ((a 74), 6, .inl (fun _ => 0)))] := hD
  refine va_get (D := (dC, dI)) (ci := 6) (v := .ref (g 82)) (C := RX6) (T := TX6) (N := 13) hx hb hT inT6 hown hK hP 4 rfl rfl 6 (by decide) (hT _ mw_206) (fun _ h9 => h9) rfl dX8_road_5 ?_
  refine lv_iload_n hx hb dX8_road_8 rfl (lv_at hl 1 rfl) ?_
  refine c_Vi (C := RX8) (As := [.ref (g 82), .int p0]) (rest := []) (wr := [((g 70), .inr (2, [.ref (g 71), .ref (g 72), .ref (g 73), .ref (g 74), .int 0, .int 0, .int 0, .int 0, .int 0, .int 0])), ((g 75), .inr (6, [.ref (g 76), .ref (g 77), .ref (g 78), .ref (g 79), .ref (g 80), .ref (g 81), .ref (g 82), .ref (g 83), .ref (g 84), .ref (g 85), .ref (g 86), .long 0, .int 0])), ((g 86), .inl ((a 86), 7, .inl (fun _ => 0))), ((g 74), .inl ((a 74), 6, .inl (fun _ => 0)))]) (n := 2) ⟨hx, hb, hml, hown, hT⟩ (k_X8_atSecond_8 l dC dI g a p0) hK hP hD hS hA [0] rfl [0, 2, 3] [1, 4, 5, 6] rfl rfl rfl rfl (by decide) rfl rfl mw_188 mw_189 mw_190 mw_69 mw_191 (by decide +kernel) ⟨Nat.le_of_ble_eq_true rfl, Nat.le_of_ble_eq_true rfl⟩ ⟨rfl, rfl⟩ rfl hl.1 (Nat.le_of_ble_eq_true rfl) rfl dX8_road_9 ⟨Nat.zero_le _, Nat.zero_le _⟩ (fun r f2 H locs er hP hD hS => ?_)
  have hP : va_P (dC, dI) vwCl [((g 70), .inr (2, [.ref (g 71), .ref (g 72), .ref (g 73), .ref (g 74), .int 0, .int 0, .int 0, .int 0, .int 0, .int 0])), ((g 75), .inr (6, [.ref (g 76), .ref (g 77), .ref (g 78), .ref (g 79), .ref (g 80), .ref (g 81), .ref (g 82), .ref (g 83), .ref (g 84), .ref (g 85), .ref (g 86), .long 0, .int 0])), ((g 86), .inl ((a 86), 7, .inl (fun _ => 0))), ((g 74), .inl ((a 74), 6, .inl (fun _ => 0))), ((g 0), .inr (8, [.ref (g 1), .ref (g 2), .ref (g 4), .ref (g 16), .ref (g 64), .ref (g 65), .ref (g 66), .ref (g 70), .ref (g 75), .ref (g 87), .ref (g 94), .int 1, .int 0, .int 0])), ((g 16), .inr (1, [.ref (g 17), .ref (g 18), .ref (g 19), .ref (g 20), .ref (g 21), .ref (g 22), .ref (g 23), .ref (g 24), .ref (g 25), .ref (g 26), .ref (g 27)])), ((g 17), .inl ((a 17), 11, .inl (fun _ => 0)))] H := hP
  have hD : va_D A [((g 70), .inr (2, [.ref (g 71), .ref (g 72), .ref (g 73), .ref (g 74), .int 0, .int 0, .int 0, .int 0, .int 0, .int 0])), ((g 75), .inr (6, [.ref (g 76), .ref (g 77), .ref (g 78), .ref (g 79), .ref (g 80), .ref (g 81), .ref (g 82), .ref (g 83), .ref (g 84), .ref (g 85), .ref (g 86), .long 0, .int 0])), ((g 86), .inl ((a 86), 7, .inl (fun _ => 0))), ((g 74), .inl ((a 74), 6, .inl (fun _ => 0))), ((g 0), .inr (8, [.ref (g 1), .ref (g 2), .ref (g 4), .ref (g 16), .ref (g 64), .ref (g 65), .ref (g 66), .ref (g 70), .ref (g 75), .ref (g 87), .ref (g 94), .int 1, .int 0, .int 0])), ((g 16), .inr (1, [.ref (g 17), .ref (g 18), .ref (g 19), .ref (g 20), .ref (g 21), .ref (g 22), .ref (g 23), .ref (g 24), .ref (g 25), .ref (g 26), .ref (g 27)])), ((g 17), .inl ((a 17), 11, .inl (fun _ => 0)))] := hD
  have er : r = (-2) := er
  subst er
  exact e_i hx hb hr hlocks hP hD hS (fun _ => 0) [] rfl rfl rfl dX8_road_12
set_option maxRecDepth 100000 in
set_option maxHeartbeats 4000000 in
theorem k_X9_road (l : Launch) (dC : Nat → ClassId) (dI : Nat → Nat → Nat) (g : Nat → Nat) (a : Nat → ClassId) (p0 : Int32)  : MI l dC dI yX9_road (Cond.code yX9_road cX9_road 2 (some .int)) ({ frames := 4, cells := 0, slots := 0, locals := 86 }) [.ref (g 0), .int p0] [((a 1), .int), ((a 15), .int), ((a 17), .int), ((a 21), .boolean), ((a 16), .boolean)] [((g 0), .inr (9, oM g 0 0 0 0 0 0 (-1))), ((g 1), .inl ((a 1), 68, .inl (fun _ => 0))), ((g 15), .inl ((a 15), 6, .inl (fun _ => 0))), ((g 17), .inl ((a 17), 6, .inl (fun _ => 0))), ((g 21), .inl ((a 21), 60, .inl (fun _ => 0))), ((g 16), .inl ((a 16), 360, .inl (fun _ => 0)))] (fun r : Int32 => r = (-2)) (fun f => []) := by
  refine m_of (Qc := fun A => QI dC dI A (fun r : Int32 => r = (-2)) (fun f => [])) (lv := [(0, .ref (g 0)), (1, .int p0)]) (by decide) (Nat.le_of_ble_eq_true rfl) rfl ?_
  intro p e s m below meth c A ls hx hb hr hml hT hown hlocks hname hP hK hD hS hA hl
  have hown : s.vm.findClass RX9 = some m.cls := hown
  refine lv_aload_n hx hb dX9_road_0 rfl (lv_at hl 0 rfl) ?_
  refine lv_iload_n hx hb dX9_road_1 rfl (lv_at hl 1 rfl) ?_
  refine c_Vi (C := RX9) (As := [.int p0]) (rest := []) (wr := []) (n := 1) ⟨hx, hb, hml, hown, hT⟩ (k_X9_asksSecond l dC dI g a p0) hK hP hD hS hA [0, 1, 2, 3, 4] rfl [0, 1, 2, 3, 4, 5] [] rfl rfl rfl rfl (by decide) rfl rfl mw_134 mw_135 mw_136 mw_19 mw_137 (by decide +kernel) ⟨Nat.le_of_ble_eq_true rfl, Nat.le_of_ble_eq_true rfl⟩ ⟨rfl, rfl⟩ rfl hl.1 (Nat.le_of_ble_eq_true rfl) rfl dX9_road_2 ⟨Nat.zero_le _, Nat.zero_le _⟩ (fun r f1 H locs er hP hD hS => ?_)
  have hP : va_P (dC, dI) vwCl [((g 0), .inr (9, oM g 0 0 0 0 0 0 (-1))), ((g 1), .inl ((a 1), 68, .inl (fun _ => 0))), ((g 15), .inl ((a 15), 6, .inl (fun _ => 0))), ((g 21), .inl ((a 21), 60, .inl (fun _ => 0))), ((g 16), .inl ((a 16), 360, .inl (fun _ => 0)))] H := hP
  have hD : va_D A [((g 0), .inr (9, oM g 0 0 0 0 0 0 (-1))), ((g 1), .inl ((a 1), 68, .inl (fun _ => 0))), ((g 15), .inl ((a 15), 6, .inl (fun _ => 0))), ((g 21), .inl ((a 21), 60, .inl (fun _ => 0))), ((g 16), .inl ((a 16), 360, .inl (fun _ => 0)))] := hD
  have er : r = 0 := er
  subst er
  refine lv_if_eq (tgt := 31) hx hb dX9_road_5 (by decide) (fun c2 => ?_) (fun c2 => ?_)
  · refine lv_bipush (v := (-2)) hx hb dX9_road_31 (by decide) ?_
    exact e_i hx hb hr hlocks hP hD hS (fun _ => 0) [] rfl rfl rfl dX9_road_33
  · exact absurd c2 (by decide)
set_option maxRecDepth 100000 in
set_option maxHeartbeats 4000000 in
theorem k_X8_left (l : Launch) (dC : Nat → ClassId) (dI : Nat → Nat → Nat) (g : Nat → Nat) (a : Nat → ClassId) (p0 : Int32)  : MI l dC dI yX8_left (Cond.code yX8_left cX8_left 5 (some .int)) ({ frames := 1, cells := 0, slots := 0, locals := 21 }) [.ref (g 0), .int p0] [((a 17), .int)] [((g 0), .inr (8, [.ref (g 1), .ref (g 2), .ref (g 4), .ref (g 16), .ref (g 64), .ref (g 65), .ref (g 66), .ref (g 70), .ref (g 75), .ref (g 87), .ref (g 94), .int 0, .int 0, .int 0])), ((g 16), .inr (1, [.ref (g 17), .ref (g 18), .ref (g 19), .ref (g 20), .ref (g 21), .ref (g 22), .ref (g 23), .ref (g 24), .ref (g 25), .ref (g 26), .ref (g 27)])), ((g 17), .inl ((a 17), 11, .inl (fun _ => 0)))] (fun r : Int32 => r = (-2)) (fun f => []) := by
  refine m_of (Qc := fun A => QI dC dI A (fun r : Int32 => r = (-2)) (fun f => [])) (lv := [(0, .ref (g 0)), (1, .int p0)]) (by decide) (Nat.le_of_ble_eq_true rfl) rfl ?_
  intro p e s m below meth c A ls hx hb hr hml hT hown hlocks hname hP hK hD hS hA hl
  have hown : s.vm.findClass RX8 = some m.cls := hown
  refine lv_aload_n hx hb dX8_left_0 rfl (lv_at hl 0 rfl) ?_
  refine va_get (D := (dC, dI)) (ci := 8) (v := .ref (g 16)) (C := RX8) (T := TX8) (N := 14) hx hb hT inT8 hown hK hP 0 rfl rfl 3 (by decide) (hT _ mw_45) (fun _ h9 => h9) rfl dX8_left_1 ?_
  refine lv_iload_n hx hb dX8_left_4 rfl (lv_at hl 1 rfl) ?_
  refine c_Vi (C := RX1) (As := [.int p0]) (rest := []) (wr := [((g 0), .inr (8, [.ref (g 1), .ref (g 2), .ref (g 4), .ref (g 16), .ref (g 64), .ref (g 65), .ref (g 66), .ref (g 70), .ref (g 75), .ref (g 87), .ref (g 94), .int 0, .int 0, .int 0]))]) (n := 1) ⟨hx, hb, hml, hown, hT⟩ (k_X1_hasSecond l dC dI g a p0) hK hP hD hS hA [0] rfl [1, 2] [0] rfl rfl rfl rfl (by decide) rfl rfl mw_184 mw_185 mw_186 mw_27 mw_187 (by decide +kernel) ⟨Nat.le_of_ble_eq_true rfl, Nat.le_of_ble_eq_true rfl⟩ ⟨rfl, rfl⟩ rfl hl.1 (Nat.le_of_ble_eq_true rfl) rfl dX8_left_5 ⟨Nat.zero_le _, Nat.zero_le _⟩ (fun r f1 H locs er hP hD hS => ?_)
  have hP : va_P (dC, dI) vwCl [((g 0), .inr (8, [.ref (g 1), .ref (g 2), .ref (g 4), .ref (g 16), .ref (g 64), .ref (g 65), .ref (g 66), .ref (g 70), .ref (g 75), .ref (g 87), .ref (g 94), .int 0, .int 0, .int 0])), ((g 16), .inr (1, [.ref (g 17), .ref (g 18), .ref (g 19), .ref (g 20), .ref (g 21), .ref (g 22), .ref (g 23), .ref (g 24), .ref (g 25), .ref (g 26), .ref (g 27)])), ((g 17), .inl ((a 17), 11, .inl (fun _ => 0)))] H := hP
  have hD : va_D A [((g 0), .inr (8, [.ref (g 1), .ref (g 2), .ref (g 4), .ref (g 16), .ref (g 64), .ref (g 65), .ref (g 66), .ref (g 70), .ref (g 75), .ref (g 87), .ref (g 94), .int 0, .int 0, .int 0])), ((g 16), .inr (1, [.ref (g 17), .ref (g 18), .ref (g 19), .ref (g 20), .ref (g 21), .ref (g 22), .ref (g 23), .ref (g 24), .ref (g 25), .ref (g 26), .ref (g 27)])), ((g 17), .inl ((a 17), 11, .inl (fun _ => 0)))] := hD
  have er : r = 0 := er
  subst er
  refine lv_if_ne (tgt := 14) hx hb dX8_left_8 (by decide) (fun c2 => ?_) (fun c2 => ?_)
  · exact absurd c2 (by decide)
  · refine lv_bipush (v := (-2)) hx hb dX8_left_11 (by decide) ?_
    exact e_i hx hb hr hlocks hP hD hS (fun _ => 0) [] rfl rfl rfl dX8_left_13
set_option maxRecDepth 100000 in
set_option maxHeartbeats 4000000 in
theorem k_X9_left (l : Launch) (dC : Nat → ClassId) (dI : Nat → Nat → Nat) (g : Nat → Nat) (a : Nat → ClassId) (p0 : Int32)  : MI l dC dI yX9_left (Cond.code yX9_left cX9_left 4 (some .int)) ({ frames := 4, cells := 0, slots := 0, locals := 86 }) [.ref (g 0), .int p0] [((a 1), .int), ((a 15), .int), ((a 17), .int), ((a 21), .boolean), ((a 16), .boolean)] [((g 0), .inr (9, oM g 0 0 0 0 0 0 (-1))), ((g 1), .inl ((a 1), 68, .inl (fun _ => 0))), ((g 15), .inl ((a 15), 6, .inl (fun _ => 0))), ((g 17), .inl ((a 17), 6, .inl (fun _ => 0))), ((g 21), .inl ((a 21), 60, .inl (fun _ => 0))), ((g 16), .inl ((a 16), 360, .inl (fun _ => 0)))] (fun r : Int32 => r = (-2)) (fun f => []) := by
  refine m_of (Qc := fun A => QI dC dI A (fun r : Int32 => r = (-2)) (fun f => [])) (lv := [(0, .ref (g 0)), (1, .int p0)]) (by decide) (Nat.le_of_ble_eq_true rfl) rfl ?_
  intro p e s m below meth c A ls hx hb hr hml hT hown hlocks hname hP hK hD hS hA hl
  have hown : s.vm.findClass RX9 = some m.cls := hown
  refine lv_aload_n hx hb dX9_left_0 rfl (lv_at hl 0 rfl) ?_
  refine lv_iload_n hx hb dX9_left_1 rfl (lv_at hl 1 rfl) ?_
  refine c_Vi (C := RX9) (As := [.int p0]) (rest := []) (wr := []) (n := 1) ⟨hx, hb, hml, hown, hT⟩ (k_X9_asksSecond l dC dI g a p0) hK hP hD hS hA [0, 1, 2, 3, 4] rfl [0, 1, 2, 3, 4, 5] [] rfl rfl rfl rfl (by decide) rfl rfl mw_134 mw_135 mw_136 mw_19 mw_137 (by decide +kernel) ⟨Nat.le_of_ble_eq_true rfl, Nat.le_of_ble_eq_true rfl⟩ ⟨rfl, rfl⟩ rfl hl.1 (Nat.le_of_ble_eq_true rfl) rfl dX9_left_2 ⟨Nat.zero_le _, Nat.zero_le _⟩ (fun r f1 H locs er hP hD hS => ?_)
  have hP : va_P (dC, dI) vwCl [((g 0), .inr (9, oM g 0 0 0 0 0 0 (-1))), ((g 1), .inl ((a 1), 68, .inl (fun _ => 0))), ((g 15), .inl ((a 15), 6, .inl (fun _ => 0))), ((g 21), .inl ((a 21), 60, .inl (fun _ => 0))), ((g 16), .inl ((a 16), 360, .inl (fun _ => 0)))] H := hP
  have hD : va_D A [((g 0), .inr (9, oM g 0 0 0 0 0 0 (-1))), ((g 1), .inl ((a 1), 68, .inl (fun _ => 0))), ((g 15), .inl ((a 15), 6, .inl (fun _ => 0))), ((g 21), .inl ((a 21), 60, .inl (fun _ => 0))), ((g 16), .inl ((a 16), 360, .inl (fun _ => 0)))] := hD
  have er : r = 0 := er
  subst er
  refine lv_if_ne (tgt := 11) hx hb dX9_left_5 (by decide) (fun c2 => ?_) (fun c2 => ?_)
  · exact absurd c2 (by decide)
  · refine lv_bipush (v := (-2)) hx hb dX9_left_8 (by decide) ?_
    exact e_i hx hb hr hlocks hP hD hS (fun _ => 0) [] rfl rfl rfl dX9_left_10
set_option maxRecDepth 100000 in
set_option maxHeartbeats 4000000 in
theorem k_X8_full (l : Launch) (dC : Nat → ClassId) (dI : Nat → Nat → Nat) (g : Nat → Nat) (a : Nat → ClassId)   : MI l dC dI yX8_full (Cond.code yX8_full cX8_full 1 (some .int)) ({ frames := 1, cells := 0, slots := 0, locals := 20 }) [.ref (g 0)] [((a 17), .int)] [((g 0), .inr (8, [.ref (g 1), .ref (g 2), .ref (g 4), .ref (g 16), .ref (g 64), .ref (g 65), .ref (g 66), .ref (g 70), .ref (g 75), .ref (g 87), .ref (g 94), .int 0, .int 0, .int 0])), ((g 16), .inr (1, [.ref (g 17), .ref (g 18), .ref (g 19), .ref (g 20), .ref (g 21), .ref (g 22), .ref (g 23), .ref (g 24), .ref (g 25), .ref (g 26), .ref (g 27)])), ((g 17), .inl ((a 17), 11, .inl (fun _ => 0)))] (fun r : Int32 => r = (-2)) (fun f => []) := by
  refine m_of (Qc := fun A => QI dC dI A (fun r : Int32 => r = (-2)) (fun f => [])) (lv := [(0, .ref (g 0))]) (by decide) (Nat.le_of_ble_eq_true rfl) rfl ?_
  intro p e s m below meth c A ls hx hb hr hml hT hown hlocks hname hP hK hD hS hA hl
  have hown : s.vm.findClass RX8 = some m.cls := hown
  refine lv_aload_n hx hb dX8_full_0 rfl (lv_at hl 0 rfl) ?_
  refine va_get (D := (dC, dI)) (ci := 8) (v := .ref (g 16)) (C := RX8) (T := TX8) (N := 14) hx hb hT inT8 hown hK hP 0 rfl rfl 3 (by decide) (hT _ mw_45) (fun _ h9 => h9) rfl dX8_full_1 ?_
  refine c_Vi (C := RX1) (As := []) (rest := []) (wr := [((g 0), .inr (8, [.ref (g 1), .ref (g 2), .ref (g 4), .ref (g 16), .ref (g 64), .ref (g 65), .ref (g 66), .ref (g 70), .ref (g 75), .ref (g 87), .ref (g 94), .int 0, .int 0, .int 0]))]) (n := 0) ⟨hx, hb, hml, hown, hT⟩ (k_X1_stands l dC dI g a ) hK hP hD hS hA [0] rfl [1, 2] [0] rfl rfl rfl rfl (by decide) rfl rfl mw_201 mw_202 mw_203 mw_27 mw_204 (by decide +kernel) ⟨Nat.le_of_ble_eq_true rfl, Nat.le_of_ble_eq_true rfl⟩ ⟨rfl, rfl⟩ rfl hl.1 (Nat.le_of_ble_eq_true rfl) rfl dX8_full_4 ⟨Nat.zero_le _, Nat.zero_le _⟩ (fun r f1 H locs er hP hD hS => ?_)
  have hP : va_P (dC, dI) vwCl [((g 0), .inr (8, [.ref (g 1), .ref (g 2), .ref (g 4), .ref (g 16), .ref (g 64), .ref (g 65), .ref (g 66), .ref (g 70), .ref (g 75), .ref (g 87), .ref (g 94), .int 0, .int 0, .int 0])), ((g 16), .inr (1, [.ref (g 17), .ref (g 18), .ref (g 19), .ref (g 20), .ref (g 21), .ref (g 22), .ref (g 23), .ref (g 24), .ref (g 25), .ref (g 26), .ref (g 27)])), ((g 17), .inl ((a 17), 11, .inl (fun _ => 0)))] H := hP
  have hD : va_D A [((g 0), .inr (8, [.ref (g 1), .ref (g 2), .ref (g 4), .ref (g 16), .ref (g 64), .ref (g 65), .ref (g 66), .ref (g 70), .ref (g 75), .ref (g 87), .ref (g 94), .int 0, .int 0, .int 0])), ((g 16), .inr (1, [.ref (g 17), .ref (g 18), .ref (g 19), .ref (g 20), .ref (g 21), .ref (g 22), .ref (g 23), .ref (g 24), .ref (g 25), .ref (g 26), .ref (g 27)])), ((g 17), .inl ((a 17), 11, .inl (fun _ => 0)))] := hD
  have er : r = 0 := er
  subst er
  refine lv_if_eq (tgt := 17) hx hb dX8_full_7 (by decide) (fun c2 => ?_) (fun c2 => ?_)
  · refine lv_bipush (v := (-2)) hx hb dX8_full_17 (by decide) ?_
    exact e_i hx hb hr hlocks hP hD hS (fun _ => 0) [] rfl rfl rfl dX8_full_19
  · exact absurd c2 (by decide)
set_option maxRecDepth 100000 in
set_option maxHeartbeats 4000000 in
theorem k_X9_full (l : Launch) (dC : Nat → ClassId) (dI : Nat → Nat → Nat) (g : Nat → Nat) (a : Nat → ClassId)   : MI l dC dI yX9_full (Cond.code yX9_full cX9_full 1 (some .int)) ({ frames := 3, cells := 0, slots := 0, locals := 65 }) [.ref (g 0)] [((a 1), .int), ((a 15), .int), ((a 17), .int), ((a 21), .boolean), ((a 16), .boolean)] [((g 0), .inr (9, oM g 0 0 0 0 0 0 (-1))), ((g 1), .inl ((a 1), 68, .inl (fun _ => 0))), ((g 15), .inl ((a 15), 6, .inl (fun _ => 0))), ((g 17), .inl ((a 17), 6, .inl (fun _ => 0))), ((g 21), .inl ((a 21), 60, .inl (fun _ => 0))), ((g 16), .inl ((a 16), 360, .inl (fun _ => 0)))] (fun r : Int32 => r = (-2)) (fun f => []) := by
  refine m_of (Qc := fun A => QI dC dI A (fun r : Int32 => r = (-2)) (fun f => [])) (lv := [(0, .ref (g 0))]) (by decide) (Nat.le_of_ble_eq_true rfl) rfl ?_
  intro p e s m below meth c A ls hx hb hr hml hT hown hlocks hname hP hK hD hS hA hl
  have hown : s.vm.findClass RX9 = some m.cls := hown
  refine lv_aload_n hx hb dX9_full_0 rfl (lv_at hl 0 rfl) ?_
  refine c_Vi (C := RX9) (As := []) (rest := []) (wr := []) (n := 0) ⟨hx, hb, hml, hown, hT⟩ (k_X9_asksBrigade l dC dI g a ) hK hP hD hS hA [0, 1, 2, 3, 4] rfl [0, 1, 2, 3, 4, 5] [] rfl rfl rfl rfl (by decide) rfl rfl mw_130 mw_131 mw_132 mw_19 mw_133 (by decide +kernel) ⟨Nat.le_of_ble_eq_true rfl, Nat.le_of_ble_eq_true rfl⟩ ⟨rfl, rfl⟩ rfl hl.1 (Nat.le_of_ble_eq_true rfl) rfl dX9_full_1 ⟨Nat.zero_le _, Nat.zero_le _⟩ (fun r f1 H locs er hP hD hS => ?_)
  have hP : va_P (dC, dI) vwCl [((g 0), .inr (9, oM g 0 0 0 0 0 0 (-1))), ((g 1), .inl ((a 1), 68, .inl (fun _ => 0))), ((g 15), .inl ((a 15), 6, .inl (fun _ => 0))), ((g 21), .inl ((a 21), 60, .inl (fun _ => 0))), ((g 16), .inl ((a 16), 360, .inl (fun _ => 0)))] H := hP
  have hD : va_D A [((g 0), .inr (9, oM g 0 0 0 0 0 0 (-1))), ((g 1), .inl ((a 1), 68, .inl (fun _ => 0))), ((g 15), .inl ((a 15), 6, .inl (fun _ => 0))), ((g 21), .inl ((a 21), 60, .inl (fun _ => 0))), ((g 16), .inl ((a 16), 360, .inl (fun _ => 0)))] := hD
  have er : r = 0 := er
  subst er
  refine lv_if_eq (tgt := 14) hx hb dX9_full_4 (by decide) (fun c2 => ?_) (fun c2 => ?_)
  · refine lv_bipush (v := (-2)) hx hb dX9_full_14 (by decide) ?_
    exact e_i hx hb hr hlocks hP hD hS (fun _ => 0) [] rfl rfl rfl dX9_full_16
  · exact absurd c2 (by decide)
set_option maxRecDepth 100000 in
set_option maxHeartbeats 4000000 in
theorem k_X8_starts (l : Launch) (dC : Nat → ClassId) (dI : Nat → Nat → Nat) (g : Nat → Nat) (a : Nat → ClassId) (p0 : Int32)  : MI l dC dI yX8_starts (Cond.code yX8_starts cX8_starts 4 (some .int)) ({ frames := 1, cells := 0, slots := 0, locals := 21 }) [.ref (g 0), .int p0] [((a 17), .int)] [((g 0), .inr (8, [.ref (g 1), .ref (g 2), .ref (g 4), .ref (g 16), .ref (g 64), .ref (g 65), .ref (g 66), .ref (g 70), .ref (g 75), .ref (g 87), .ref (g 94), .int 0, .int 0, .int 0])), ((g 16), .inr (1, [.ref (g 17), .ref (g 18), .ref (g 19), .ref (g 20), .ref (g 21), .ref (g 22), .ref (g 23), .ref (g 24), .ref (g 25), .ref (g 26), .ref (g 27)])), ((g 17), .inl ((a 17), 11, .inl (fun _ => 0)))] (fun r : Int32 => r = (-2)) (fun f => []) := by
  refine m_of (Qc := fun A => QI dC dI A (fun r : Int32 => r = (-2)) (fun f => [])) (lv := [(0, .ref (g 0)), (1, .int p0)]) (by decide) (Nat.le_of_ble_eq_true rfl) rfl ?_
  intro p e s m below meth c A ls hx hb hr hml hT hown hlocks hname hP hK hD hS hA hl
  have hown : s.vm.findClass RX8 = some m.cls := hown
  refine lv_aload_n hx hb dX8_starts_0 rfl (lv_at hl 0 rfl) ?_
  refine va_get (D := (dC, dI)) (ci := 8) (v := .ref (g 16)) (C := RX8) (T := TX8) (N := 14) hx hb hT inT8 hown hK hP 0 rfl rfl 3 (by decide) (hT _ mw_45) (fun _ h9 => h9) rfl dX8_starts_1 ?_
  refine lv_iload_n hx hb dX8_starts_4 rfl (lv_at hl 1 rfl) ?_
  refine c_Vi (C := RX1) (As := [.int p0]) (rest := []) (wr := [((g 0), .inr (8, [.ref (g 1), .ref (g 2), .ref (g 4), .ref (g 16), .ref (g 64), .ref (g 65), .ref (g 66), .ref (g 70), .ref (g 75), .ref (g 87), .ref (g 94), .int 0, .int 0, .int 0]))]) (n := 1) ⟨hx, hb, hml, hown, hT⟩ (k_X1_hasHand l dC dI g a p0) hK hP hD hS hA [0] rfl [1, 2] [0] rfl rfl rfl rfl (by decide) rfl rfl mw_99 mw_100 mw_101 mw_27 mw_102 (by decide +kernel) ⟨Nat.le_of_ble_eq_true rfl, Nat.le_of_ble_eq_true rfl⟩ ⟨rfl, rfl⟩ rfl hl.1 (Nat.le_of_ble_eq_true rfl) rfl dX8_starts_5 ⟨Nat.zero_le _, Nat.zero_le _⟩ (fun r f1 H locs er hP hD hS => ?_)
  have hP : va_P (dC, dI) vwCl [((g 0), .inr (8, [.ref (g 1), .ref (g 2), .ref (g 4), .ref (g 16), .ref (g 64), .ref (g 65), .ref (g 66), .ref (g 70), .ref (g 75), .ref (g 87), .ref (g 94), .int 0, .int 0, .int 0])), ((g 16), .inr (1, [.ref (g 17), .ref (g 18), .ref (g 19), .ref (g 20), .ref (g 21), .ref (g 22), .ref (g 23), .ref (g 24), .ref (g 25), .ref (g 26), .ref (g 27)])), ((g 17), .inl ((a 17), 11, .inl (fun _ => 0)))] H := hP
  have hD : va_D A [((g 0), .inr (8, [.ref (g 1), .ref (g 2), .ref (g 4), .ref (g 16), .ref (g 64), .ref (g 65), .ref (g 66), .ref (g 70), .ref (g 75), .ref (g 87), .ref (g 94), .int 0, .int 0, .int 0])), ((g 16), .inr (1, [.ref (g 17), .ref (g 18), .ref (g 19), .ref (g 20), .ref (g 21), .ref (g 22), .ref (g 23), .ref (g 24), .ref (g 25), .ref (g 26), .ref (g 27)])), ((g 17), .inl ((a 17), 11, .inl (fun _ => 0)))] := hD
  have er : r = 0 := er
  subst er
  refine lv_if_ne (tgt := 14) hx hb dX8_starts_8 (by decide) (fun c2 => ?_) (fun c2 => ?_)
  · exact absurd c2 (by decide)
  · refine lv_bipush (v := (-2)) hx hb dX8_starts_11 (by decide) ?_
    exact e_i hx hb hr hlocks hP hD hS (fun _ => 0) [] rfl rfl rfl dX8_starts_13
set_option maxRecDepth 100000 in
set_option maxHeartbeats 4000000 in
theorem k_X9_starts (l : Launch) (dC : Nat → ClassId) (dI : Nat → Nat → Nat) (g : Nat → Nat) (a : Nat → ClassId) (p0 : Int32)  : MI l dC dI yX9_starts (Cond.code yX9_starts cX9_starts 3 (some .int)) ({ frames := 4, cells := 0, slots := 0, locals := 86 }) [.ref (g 0), .int p0] [((a 1), .int), ((a 15), .int), ((a 17), .int), ((a 21), .boolean), ((a 16), .boolean)] [((g 0), .inr (9, oM g 0 0 0 0 0 0 (-1))), ((g 1), .inl ((a 1), 68, .inl (fun _ => 0))), ((g 15), .inl ((a 15), 6, .inl (fun _ => 0))), ((g 17), .inl ((a 17), 6, .inl (fun _ => 0))), ((g 21), .inl ((a 21), 60, .inl (fun _ => 0))), ((g 16), .inl ((a 16), 360, .inl (fun _ => 0)))] (fun r : Int32 => r = (-2)) (fun f => []) := by
  refine m_of (Qc := fun A => QI dC dI A (fun r : Int32 => r = (-2)) (fun f => [])) (lv := [(0, .ref (g 0)), (1, .int p0)]) (by decide) (Nat.le_of_ble_eq_true rfl) rfl ?_
  intro p e s m below meth c A ls hx hb hr hml hT hown hlocks hname hP hK hD hS hA hl
  have hown : s.vm.findClass RX9 = some m.cls := hown
  refine lv_aload_n hx hb dX9_starts_0 rfl (lv_at hl 0 rfl) ?_
  refine lv_iload_n hx hb dX9_starts_1 rfl (lv_at hl 1 rfl) ?_
  refine c_Vi (C := RX9) (As := [.int p0]) (rest := []) (wr := []) (n := 1) ⟨hx, hb, hml, hown, hT⟩ (k_X9_asksHand l dC dI g a p0) hK hP hD hS hA [0, 1, 2, 3, 4] rfl [0, 1, 2, 3, 4, 5] [] rfl rfl rfl rfl (by decide) rfl rfl mw_193 mw_194 mw_195 mw_19 mw_196 (by decide +kernel) ⟨Nat.le_of_ble_eq_true rfl, Nat.le_of_ble_eq_true rfl⟩ ⟨rfl, rfl⟩ rfl hl.1 (Nat.le_of_ble_eq_true rfl) rfl dX9_starts_2 ⟨Nat.zero_le _, Nat.zero_le _⟩ (fun r f1 H locs er hP hD hS => ?_)
  have hP : va_P (dC, dI) vwCl [((g 0), .inr (9, oM g 0 0 0 0 0 0 (-1))), ((g 1), .inl ((a 1), 68, .inl (fun _ => 0))), ((g 15), .inl ((a 15), 6, .inl (fun _ => 0))), ((g 21), .inl ((a 21), 60, .inl (fun _ => 0))), ((g 16), .inl ((a 16), 360, .inl (fun _ => 0)))] H := hP
  have hD : va_D A [((g 0), .inr (9, oM g 0 0 0 0 0 0 (-1))), ((g 1), .inl ((a 1), 68, .inl (fun _ => 0))), ((g 15), .inl ((a 15), 6, .inl (fun _ => 0))), ((g 21), .inl ((a 21), 60, .inl (fun _ => 0))), ((g 16), .inl ((a 16), 360, .inl (fun _ => 0)))] := hD
  have er : r = 0 := er
  subst er
  refine lv_if_ne (tgt := 11) hx hb dX9_starts_5 (by decide) (fun c2 => ?_) (fun c2 => ?_)
  · exact absurd c2 (by decide)
  · refine lv_bipush (v := (-2)) hx hb dX9_starts_8 (by decide) ?_
    exact e_i hx hb hr hlocks hP hD hS (fun _ => 0) [] rfl rfl rfl dX9_starts_10
set_option maxRecDepth 100000 in
set_option maxHeartbeats 4000000 in
theorem k_X8_passes (l : Launch) (dC : Nat → ClassId) (dI : Nat → Nat → Nat) (g : Nat → Nat) (a : Nat → ClassId) (p0 : Int32)  : MI l dC dI yX8_passes (Cond.code yX8_passes cX8_passes 2 (some .int)) ({ frames := 1, cells := 0, slots := 0, locals := 21 }) [.ref (g 0), .int p0] [((a 17), .int)] [((g 0), .inr (8, [.ref (g 1), .ref (g 2), .ref (g 4), .ref (g 16), .ref (g 64), .ref (g 65), .ref (g 66), .ref (g 70), .ref (g 75), .ref (g 87), .ref (g 94), .int 0, .int 0, .int 0])), ((g 16), .inr (1, [.ref (g 17), .ref (g 18), .ref (g 19), .ref (g 20), .ref (g 21), .ref (g 22), .ref (g 23), .ref (g 24), .ref (g 25), .ref (g 26), .ref (g 27)])), ((g 17), .inl ((a 17), 11, .inl (fun _ => 0)))] (fun r : Int32 => r = (-2)) (fun f => []) := by
  refine m_of (Qc := fun A => QI dC dI A (fun r : Int32 => r = (-2)) (fun f => [])) (lv := [(0, .ref (g 0)), (1, .int p0)]) (by decide) (Nat.le_of_ble_eq_true rfl) rfl ?_
  intro p e s m below meth c A ls hx hb hr hml hT hown hlocks hname hP hK hD hS hA hl
  have hown : s.vm.findClass RX8 = some m.cls := hown
  refine lv_aload_n hx hb dX8_passes_0 rfl (lv_at hl 0 rfl) ?_
  refine va_get (D := (dC, dI)) (ci := 8) (v := .ref (g 16)) (C := RX8) (T := TX8) (N := 14) hx hb hT inT8 hown hK hP 0 rfl rfl 3 (by decide) (hT _ mw_45) (fun _ h9 => h9) rfl dX8_passes_1 ?_
  refine lv_iload_n hx hb dX8_passes_4 rfl (lv_at hl 1 rfl) ?_
  refine c_Vi (C := RX1) (As := [.int p0]) (rest := []) (wr := [((g 0), .inr (8, [.ref (g 1), .ref (g 2), .ref (g 4), .ref (g 16), .ref (g 64), .ref (g 65), .ref (g 66), .ref (g 70), .ref (g 75), .ref (g 87), .ref (g 94), .int 0, .int 0, .int 0]))]) (n := 1) ⟨hx, hb, hml, hown, hT⟩ (k_X1_hasHand l dC dI g a p0) hK hP hD hS hA [0] rfl [1, 2] [0] rfl rfl rfl rfl (by decide) rfl rfl mw_99 mw_100 mw_101 mw_27 mw_102 (by decide +kernel) ⟨Nat.le_of_ble_eq_true rfl, Nat.le_of_ble_eq_true rfl⟩ ⟨rfl, rfl⟩ rfl hl.1 (Nat.le_of_ble_eq_true rfl) rfl dX8_passes_5 ⟨Nat.zero_le _, Nat.zero_le _⟩ (fun r f1 H locs er hP hD hS => ?_)
  have hP : va_P (dC, dI) vwCl [((g 0), .inr (8, [.ref (g 1), .ref (g 2), .ref (g 4), .ref (g 16), .ref (g 64), .ref (g 65), .ref (g 66), .ref (g 70), .ref (g 75), .ref (g 87), .ref (g 94), .int 0, .int 0, .int 0])), ((g 16), .inr (1, [.ref (g 17), .ref (g 18), .ref (g 19), .ref (g 20), .ref (g 21), .ref (g 22), .ref (g 23), .ref (g 24), .ref (g 25), .ref (g 26), .ref (g 27)])), ((g 17), .inl ((a 17), 11, .inl (fun _ => 0)))] H := hP
  have hD : va_D A [((g 0), .inr (8, [.ref (g 1), .ref (g 2), .ref (g 4), .ref (g 16), .ref (g 64), .ref (g 65), .ref (g 66), .ref (g 70), .ref (g 75), .ref (g 87), .ref (g 94), .int 0, .int 0, .int 0])), ((g 16), .inr (1, [.ref (g 17), .ref (g 18), .ref (g 19), .ref (g 20), .ref (g 21), .ref (g 22), .ref (g 23), .ref (g 24), .ref (g 25), .ref (g 26), .ref (g 27)])), ((g 17), .inl ((a 17), 11, .inl (fun _ => 0)))] := hD
  have er : r = 0 := er
  subst er
  refine lv_if_eq (tgt := 26) hx hb dX8_passes_8 (by decide) (fun c2 => ?_) (fun c2 => ?_)
  · refine lv_bipush (v := (-2)) hx hb dX8_passes_26 (by decide) ?_
    exact e_i hx hb hr hlocks hP hD hS (fun _ => 0) [] rfl rfl rfl dX8_passes_28
  · exact absurd c2 (by decide)
set_option maxRecDepth 100000 in
set_option maxHeartbeats 4000000 in
theorem k_X9_passes (l : Launch) (dC : Nat → ClassId) (dI : Nat → Nat → Nat) (g : Nat → Nat) (a : Nat → ClassId) (p0 : Int32)  : MI l dC dI yX9_passes (Cond.code yX9_passes cX9_passes 2 (some .int)) ({ frames := 4, cells := 0, slots := 0, locals := 86 }) [.ref (g 0), .int p0] [((a 1), .int), ((a 15), .int), ((a 17), .int), ((a 21), .boolean), ((a 16), .boolean)] [((g 0), .inr (9, oM g 0 0 0 0 0 0 (-1))), ((g 1), .inl ((a 1), 68, .inl (fun _ => 0))), ((g 15), .inl ((a 15), 6, .inl (fun _ => 0))), ((g 17), .inl ((a 17), 6, .inl (fun _ => 0))), ((g 21), .inl ((a 21), 60, .inl (fun _ => 0))), ((g 16), .inl ((a 16), 360, .inl (fun _ => 0)))] (fun r : Int32 => r = (-2)) (fun f => []) := by
  refine m_of (Qc := fun A => QI dC dI A (fun r : Int32 => r = (-2)) (fun f => [])) (lv := [(0, .ref (g 0)), (1, .int p0)]) (by decide) (Nat.le_of_ble_eq_true rfl) rfl ?_
  intro p e s m below meth c A ls hx hb hr hml hT hown hlocks hname hP hK hD hS hA hl
  have hown : s.vm.findClass RX9 = some m.cls := hown
  refine lv_aload_n hx hb dX9_passes_0 rfl (lv_at hl 0 rfl) ?_
  refine lv_iload_n hx hb dX9_passes_1 rfl (lv_at hl 1 rfl) ?_
  refine c_Vi (C := RX9) (As := [.int p0]) (rest := []) (wr := []) (n := 1) ⟨hx, hb, hml, hown, hT⟩ (k_X9_asksHand l dC dI g a p0) hK hP hD hS hA [0, 1, 2, 3, 4] rfl [0, 1, 2, 3, 4, 5] [] rfl rfl rfl rfl (by decide) rfl rfl mw_193 mw_194 mw_195 mw_19 mw_196 (by decide +kernel) ⟨Nat.le_of_ble_eq_true rfl, Nat.le_of_ble_eq_true rfl⟩ ⟨rfl, rfl⟩ rfl hl.1 (Nat.le_of_ble_eq_true rfl) rfl dX9_passes_2 ⟨Nat.zero_le _, Nat.zero_le _⟩ (fun r f1 H locs er hP hD hS => ?_)
  have hP : va_P (dC, dI) vwCl [((g 0), .inr (9, oM g 0 0 0 0 0 0 (-1))), ((g 1), .inl ((a 1), 68, .inl (fun _ => 0))), ((g 15), .inl ((a 15), 6, .inl (fun _ => 0))), ((g 21), .inl ((a 21), 60, .inl (fun _ => 0))), ((g 16), .inl ((a 16), 360, .inl (fun _ => 0)))] H := hP
  have hD : va_D A [((g 0), .inr (9, oM g 0 0 0 0 0 0 (-1))), ((g 1), .inl ((a 1), 68, .inl (fun _ => 0))), ((g 15), .inl ((a 15), 6, .inl (fun _ => 0))), ((g 21), .inl ((a 21), 60, .inl (fun _ => 0))), ((g 16), .inl ((a 16), 360, .inl (fun _ => 0)))] := hD
  have er : r = 0 := er
  subst er
  refine lv_if_eq (tgt := 17) hx hb dX9_passes_5 (by decide) (fun c2 => ?_) (fun c2 => ?_)
  · refine lv_bipush (v := (-2)) hx hb dX9_passes_17 (by decide) ?_
    exact e_i hx hb hr hlocks hP hD hS (fun _ => 0) [] rfl rfl rfl dX9_passes_19
  · exact absurd c2 (by decide)
set_option maxRecDepth 100000 in
set_option maxHeartbeats 4000000 in
theorem k_X8_loses (l : Launch) (dC : Nat → ClassId) (dI : Nat → Nat → Nat) (g : Nat → Nat) (a : Nat → ClassId) (p0 : Int32)  : MI l dC dI yX8_loses (Cond.code yX8_loses cX8_loses 2 (some .int)) ({ frames := 1, cells := 0, slots := 0, locals := 21 }) [.ref (g 0), .int p0] [((a 17), .int)] [((g 0), .inr (8, [.ref (g 1), .ref (g 2), .ref (g 4), .ref (g 16), .ref (g 64), .ref (g 65), .ref (g 66), .ref (g 70), .ref (g 75), .ref (g 87), .ref (g 94), .int 0, .int 0, .int 0])), ((g 16), .inr (1, [.ref (g 17), .ref (g 18), .ref (g 19), .ref (g 20), .ref (g 21), .ref (g 22), .ref (g 23), .ref (g 24), .ref (g 25), .ref (g 26), .ref (g 27)])), ((g 17), .inl ((a 17), 11, .inl (fun _ => 0)))] (fun r : Int32 => r = (-2)) (fun f => []) := by
  refine m_of (Qc := fun A => QI dC dI A (fun r : Int32 => r = (-2)) (fun f => [])) (lv := [(0, .ref (g 0)), (1, .int p0)]) (by decide) (Nat.le_of_ble_eq_true rfl) rfl ?_
  intro p e s m below meth c A ls hx hb hr hml hT hown hlocks hname hP hK hD hS hA hl
  have hown : s.vm.findClass RX8 = some m.cls := hown
  refine lv_aload_n hx hb dX8_loses_0 rfl (lv_at hl 0 rfl) ?_
  refine va_get (D := (dC, dI)) (ci := 8) (v := .ref (g 16)) (C := RX8) (T := TX8) (N := 14) hx hb hT inT8 hown hK hP 0 rfl rfl 3 (by decide) (hT _ mw_45) (fun _ h9 => h9) rfl dX8_loses_1 ?_
  refine lv_iload_n hx hb dX8_loses_4 rfl (lv_at hl 1 rfl) ?_
  refine c_Vi (C := RX1) (As := [.int p0]) (rest := []) (wr := [((g 0), .inr (8, [.ref (g 1), .ref (g 2), .ref (g 4), .ref (g 16), .ref (g 64), .ref (g 65), .ref (g 66), .ref (g 70), .ref (g 75), .ref (g 87), .ref (g 94), .int 0, .int 0, .int 0]))]) (n := 1) ⟨hx, hb, hml, hown, hT⟩ (k_X1_hasHand l dC dI g a p0) hK hP hD hS hA [0] rfl [1, 2] [0] rfl rfl rfl rfl (by decide) rfl rfl mw_99 mw_100 mw_101 mw_27 mw_102 (by decide +kernel) ⟨Nat.le_of_ble_eq_true rfl, Nat.le_of_ble_eq_true rfl⟩ ⟨rfl, rfl⟩ rfl hl.1 (Nat.le_of_ble_eq_true rfl) rfl dX8_loses_5 ⟨Nat.zero_le _, Nat.zero_le _⟩ (fun r f1 H locs er hP hD hS => ?_)
  have hP : va_P (dC, dI) vwCl [((g 0), .inr (8, [.ref (g 1), .ref (g 2), .ref (g 4), .ref (g 16), .ref (g 64), .ref (g 65), .ref (g 66), .ref (g 70), .ref (g 75), .ref (g 87), .ref (g 94), .int 0, .int 0, .int 0])), ((g 16), .inr (1, [.ref (g 17), .ref (g 18), .ref (g 19), .ref (g 20), .ref (g 21), .ref (g 22), .ref (g 23), .ref (g 24), .ref (g 25), .ref (g 26), .ref (g 27)])), ((g 17), .inl ((a 17), 11, .inl (fun _ => 0)))] H := hP
  have hD : va_D A [((g 0), .inr (8, [.ref (g 1), .ref (g 2), .ref (g 4), .ref (g 16), .ref (g 64), .ref (g 65), .ref (g 66), .ref (g 70), .ref (g 75), .ref (g 87), .ref (g 94), .int 0, .int 0, .int 0])), ((g 16), .inr (1, [.ref (g 17), .ref (g 18), .ref (g 19), .ref (g 20), .ref (g 21), .ref (g 22), .ref (g 23), .ref (g 24), .ref (g 25), .ref (g 26), .ref (g 27)])), ((g 17), .inl ((a 17), 11, .inl (fun _ => 0)))] := hD
  have er : r = 0 := er
  subst er
  refine lv_if_eq (tgt := 35) hx hb dX8_loses_8 (by decide) (fun c2 => ?_) (fun c2 => ?_)
  · refine lv_bipush (v := (-2)) hx hb dX8_loses_35 (by decide) ?_
    exact e_i hx hb hr hlocks hP hD hS (fun _ => 0) [] rfl rfl rfl dX8_loses_37
  · exact absurd c2 (by decide)
set_option maxRecDepth 100000 in
set_option maxHeartbeats 4000000 in
theorem k_X9_loses (l : Launch) (dC : Nat → ClassId) (dI : Nat → Nat → Nat) (g : Nat → Nat) (a : Nat → ClassId) (p0 : Int32)  : MI l dC dI yX9_loses (Cond.code yX9_loses cX9_loses 2 (some .int)) ({ frames := 4, cells := 0, slots := 0, locals := 86 }) [.ref (g 0), .int p0] [((a 1), .int), ((a 15), .int), ((a 17), .int), ((a 21), .boolean), ((a 16), .boolean)] [((g 0), .inr (9, oM g 0 0 0 0 0 0 (-1))), ((g 1), .inl ((a 1), 68, .inl (fun _ => 0))), ((g 15), .inl ((a 15), 6, .inl (fun _ => 0))), ((g 17), .inl ((a 17), 6, .inl (fun _ => 0))), ((g 21), .inl ((a 21), 60, .inl (fun _ => 0))), ((g 16), .inl ((a 16), 360, .inl (fun _ => 0)))] (fun r : Int32 => r = (-2)) (fun f => []) := by
  refine m_of (Qc := fun A => QI dC dI A (fun r : Int32 => r = (-2)) (fun f => [])) (lv := [(0, .ref (g 0)), (1, .int p0)]) (by decide) (Nat.le_of_ble_eq_true rfl) rfl ?_
  intro p e s m below meth c A ls hx hb hr hml hT hown hlocks hname hP hK hD hS hA hl
  have hown : s.vm.findClass RX9 = some m.cls := hown
  refine lv_aload_n hx hb dX9_loses_0 rfl (lv_at hl 0 rfl) ?_
  refine lv_iload_n hx hb dX9_loses_1 rfl (lv_at hl 1 rfl) ?_
  refine c_Vi (C := RX9) (As := [.int p0]) (rest := []) (wr := []) (n := 1) ⟨hx, hb, hml, hown, hT⟩ (k_X9_asksHand l dC dI g a p0) hK hP hD hS hA [0, 1, 2, 3, 4] rfl [0, 1, 2, 3, 4, 5] [] rfl rfl rfl rfl (by decide) rfl rfl mw_193 mw_194 mw_195 mw_19 mw_196 (by decide +kernel) ⟨Nat.le_of_ble_eq_true rfl, Nat.le_of_ble_eq_true rfl⟩ ⟨rfl, rfl⟩ rfl hl.1 (Nat.le_of_ble_eq_true rfl) rfl dX9_loses_2 ⟨Nat.zero_le _, Nat.zero_le _⟩ (fun r f1 H locs er hP hD hS => ?_)
  have hP : va_P (dC, dI) vwCl [((g 0), .inr (9, oM g 0 0 0 0 0 0 (-1))), ((g 1), .inl ((a 1), 68, .inl (fun _ => 0))), ((g 15), .inl ((a 15), 6, .inl (fun _ => 0))), ((g 21), .inl ((a 21), 60, .inl (fun _ => 0))), ((g 16), .inl ((a 16), 360, .inl (fun _ => 0)))] H := hP
  have hD : va_D A [((g 0), .inr (9, oM g 0 0 0 0 0 0 (-1))), ((g 1), .inl ((a 1), 68, .inl (fun _ => 0))), ((g 15), .inl ((a 15), 6, .inl (fun _ => 0))), ((g 21), .inl ((a 21), 60, .inl (fun _ => 0))), ((g 16), .inl ((a 16), 360, .inl (fun _ => 0)))] := hD
  have er : r = 0 := er
  subst er
  refine lv_if_eq (tgt := 17) hx hb dX9_loses_5 (by decide) (fun c2 => ?_) (fun c2 => ?_)
  · refine lv_bipush (v := (-2)) hx hb dX9_loses_17 (by decide) ?_
    exact e_i hx hb hr hlocks hP hD hS (fun _ => 0) [] rfl rfl rfl dX9_loses_19
  · exact absurd c2 (by decide)
set_option maxRecDepth 100000 in
set_option maxHeartbeats 4000000 in
theorem k_X8_lazy (l : Launch) (dC : Nat → ClassId) (dI : Nat → Nat → Nat) (g : Nat → Nat) (a : Nat → ClassId)   : MI l dC dI yX8_lazy (Cond.code yX8_lazy cX8_lazy 5 (some .int)) ({ frames := 1, cells := 0, slots := 0, locals := 20 }) [.ref (g 0)] [((a 17), .int)] [((g 0), .inr (8, [.ref (g 1), .ref (g 2), .ref (g 4), .ref (g 16), .ref (g 64), .ref (g 65), .ref (g 66), .ref (g 70), .ref (g 75), .ref (g 87), .ref (g 94), .int 0, .int 0, .int 0])), ((g 16), .inr (1, [.ref (g 17), .ref (g 18), .ref (g 19), .ref (g 20), .ref (g 21), .ref (g 22), .ref (g 23), .ref (g 24), .ref (g 25), .ref (g 26), .ref (g 27)])), ((g 17), .inl ((a 17), 11, .inl (fun _ => 0)))] (fun r : Int32 => r = (-2)) (fun f => []) := by
  refine m_of (Qc := fun A => QI dC dI A (fun r : Int32 => r = (-2)) (fun f => [])) (lv := [(0, .ref (g 0))]) (by decide) (Nat.le_of_ble_eq_true rfl) rfl ?_
  intro p e s m below meth c A ls hx hb hr hml hT hown hlocks hname hP hK hD hS hA hl
  have hown : s.vm.findClass RX8 = some m.cls := hown
  refine lv_aload_n hx hb dX8_lazy_0 rfl (lv_at hl 0 rfl) ?_
  refine va_get (D := (dC, dI)) (ci := 8) (v := .ref (g 16)) (C := RX8) (T := TX8) (N := 14) hx hb hT inT8 hown hK hP 0 rfl rfl 3 (by decide) (hT _ mw_45) (fun _ h9 => h9) rfl dX8_lazy_1 ?_
  refine c_Vi (C := RX1) (As := []) (rest := []) (wr := [((g 0), .inr (8, [.ref (g 1), .ref (g 2), .ref (g 4), .ref (g 16), .ref (g 64), .ref (g 65), .ref (g 66), .ref (g 70), .ref (g 75), .ref (g 87), .ref (g 94), .int 0, .int 0, .int 0]))]) (n := 0) ⟨hx, hb, hml, hown, hT⟩ (k_X1_stands l dC dI g a ) hK hP hD hS hA [0] rfl [1, 2] [0] rfl rfl rfl rfl (by decide) rfl rfl mw_201 mw_202 mw_203 mw_27 mw_204 (by decide +kernel) ⟨Nat.le_of_ble_eq_true rfl, Nat.le_of_ble_eq_true rfl⟩ ⟨rfl, rfl⟩ rfl hl.1 (Nat.le_of_ble_eq_true rfl) rfl dX8_lazy_4 ⟨Nat.zero_le _, Nat.zero_le _⟩ (fun r f1 H locs er hP hD hS => ?_)
  have hP : va_P (dC, dI) vwCl [((g 0), .inr (8, [.ref (g 1), .ref (g 2), .ref (g 4), .ref (g 16), .ref (g 64), .ref (g 65), .ref (g 66), .ref (g 70), .ref (g 75), .ref (g 87), .ref (g 94), .int 0, .int 0, .int 0])), ((g 16), .inr (1, [.ref (g 17), .ref (g 18), .ref (g 19), .ref (g 20), .ref (g 21), .ref (g 22), .ref (g 23), .ref (g 24), .ref (g 25), .ref (g 26), .ref (g 27)])), ((g 17), .inl ((a 17), 11, .inl (fun _ => 0)))] H := hP
  have hD : va_D A [((g 0), .inr (8, [.ref (g 1), .ref (g 2), .ref (g 4), .ref (g 16), .ref (g 64), .ref (g 65), .ref (g 66), .ref (g 70), .ref (g 75), .ref (g 87), .ref (g 94), .int 0, .int 0, .int 0])), ((g 16), .inr (1, [.ref (g 17), .ref (g 18), .ref (g 19), .ref (g 20), .ref (g 21), .ref (g 22), .ref (g 23), .ref (g 24), .ref (g 25), .ref (g 26), .ref (g 27)])), ((g 17), .inl ((a 17), 11, .inl (fun _ => 0)))] := hD
  have er : r = 0 := er
  subst er
  refine lv_if_ne (tgt := 13) hx hb dX8_lazy_7 (by decide) (fun c2 => ?_) (fun c2 => ?_)
  · exact absurd c2 (by decide)
  · refine lv_bipush (v := (-2)) hx hb dX8_lazy_10 (by decide) ?_
    exact e_i hx hb hr hlocks hP hD hS (fun _ => 0) [] rfl rfl rfl dX8_lazy_12
set_option maxRecDepth 100000 in
set_option maxHeartbeats 4000000 in
theorem k_X9_lazy (l : Launch) (dC : Nat → ClassId) (dI : Nat → Nat → Nat) (g : Nat → Nat) (a : Nat → ClassId)   : MI l dC dI yX9_lazy (Cond.code yX9_lazy cX9_lazy 3 (some .int)) ({ frames := 3, cells := 0, slots := 0, locals := 65 }) [.ref (g 0)] [((a 1), .int), ((a 15), .int), ((a 17), .int), ((a 21), .boolean), ((a 16), .boolean)] [((g 0), .inr (9, oM g 0 0 0 0 0 0 (-1))), ((g 1), .inl ((a 1), 68, .inl (fun _ => 0))), ((g 15), .inl ((a 15), 6, .inl (fun _ => 0))), ((g 17), .inl ((a 17), 6, .inl (fun _ => 0))), ((g 21), .inl ((a 21), 60, .inl (fun _ => 0))), ((g 16), .inl ((a 16), 360, .inl (fun _ => 0)))] (fun r : Int32 => r = (-2)) (fun f => []) := by
  refine m_of (Qc := fun A => QI dC dI A (fun r : Int32 => r = (-2)) (fun f => [])) (lv := [(0, .ref (g 0))]) (by decide) (Nat.le_of_ble_eq_true rfl) rfl ?_
  intro p e s m below meth c A ls hx hb hr hml hT hown hlocks hname hP hK hD hS hA hl
  have hown : s.vm.findClass RX9 = some m.cls := hown
  refine lv_aload_n hx hb dX9_lazy_0 rfl (lv_at hl 0 rfl) ?_
  refine c_Vi (C := RX9) (As := []) (rest := []) (wr := []) (n := 0) ⟨hx, hb, hml, hown, hT⟩ (k_X9_asksBrigade l dC dI g a ) hK hP hD hS hA [0, 1, 2, 3, 4] rfl [0, 1, 2, 3, 4, 5] [] rfl rfl rfl rfl (by decide) rfl rfl mw_130 mw_131 mw_132 mw_19 mw_133 (by decide +kernel) ⟨Nat.le_of_ble_eq_true rfl, Nat.le_of_ble_eq_true rfl⟩ ⟨rfl, rfl⟩ rfl hl.1 (Nat.le_of_ble_eq_true rfl) rfl dX9_lazy_1 ⟨Nat.zero_le _, Nat.zero_le _⟩ (fun r f1 H locs er hP hD hS => ?_)
  have hP : va_P (dC, dI) vwCl [((g 0), .inr (9, oM g 0 0 0 0 0 0 (-1))), ((g 1), .inl ((a 1), 68, .inl (fun _ => 0))), ((g 15), .inl ((a 15), 6, .inl (fun _ => 0))), ((g 21), .inl ((a 21), 60, .inl (fun _ => 0))), ((g 16), .inl ((a 16), 360, .inl (fun _ => 0)))] H := hP
  have hD : va_D A [((g 0), .inr (9, oM g 0 0 0 0 0 0 (-1))), ((g 1), .inl ((a 1), 68, .inl (fun _ => 0))), ((g 15), .inl ((a 15), 6, .inl (fun _ => 0))), ((g 21), .inl ((a 21), 60, .inl (fun _ => 0))), ((g 16), .inl ((a 16), 360, .inl (fun _ => 0)))] := hD
  have er : r = 0 := er
  subst er
  refine lv_if_ne (tgt := 10) hx hb dX9_lazy_4 (by decide) (fun c2 => ?_) (fun c2 => ?_)
  · exact absurd c2 (by decide)
  · refine lv_bipush (v := (-2)) hx hb dX9_lazy_7 (by decide) ?_
    exact e_i hx hb hr hlocks hP hD hS (fun _ => 0) [] rfl rfl rfl dX9_lazy_9
set_option maxRecDepth 100000 in
set_option maxHeartbeats 4000000 in
theorem k_X8_queue (l : Launch) (dC : Nat → ClassId) (dI : Nat → Nat → Nat) (g : Nat → Nat) (a : Nat → ClassId)   : MI l dC dI yX8_queue (Cond.code yX8_queue cX8_queue 5 (some .int)) ({ frames := 1, cells := 0, slots := 0, locals := 20 }) [.ref (g 0)] [((a 17), .int)] [((g 0), .inr (8, [.ref (g 1), .ref (g 2), .ref (g 4), .ref (g 16), .ref (g 64), .ref (g 65), .ref (g 66), .ref (g 70), .ref (g 75), .ref (g 87), .ref (g 94), .int 0, .int 0, .int 0])), ((g 16), .inr (1, [.ref (g 17), .ref (g 18), .ref (g 19), .ref (g 20), .ref (g 21), .ref (g 22), .ref (g 23), .ref (g 24), .ref (g 25), .ref (g 26), .ref (g 27)])), ((g 17), .inl ((a 17), 11, .inl (fun _ => 0)))] (fun r : Int32 => r = (-2)) (fun f => []) := by
  refine m_of (Qc := fun A => QI dC dI A (fun r : Int32 => r = (-2)) (fun f => [])) (lv := [(0, .ref (g 0))]) (by decide) (Nat.le_of_ble_eq_true rfl) rfl ?_
  intro p e s m below meth c A ls hx hb hr hml hT hown hlocks hname hP hK hD hS hA hl
  have hown : s.vm.findClass RX8 = some m.cls := hown
  refine lv_aload_n hx hb dX8_queue_0 rfl (lv_at hl 0 rfl) ?_
  refine va_get (D := (dC, dI)) (ci := 8) (v := .ref (g 16)) (C := RX8) (T := TX8) (N := 14) hx hb hT inT8 hown hK hP 0 rfl rfl 3 (by decide) (hT _ mw_45) (fun _ h9 => h9) rfl dX8_queue_1 ?_
  refine c_Vi (C := RX1) (As := []) (rest := []) (wr := [((g 0), .inr (8, [.ref (g 1), .ref (g 2), .ref (g 4), .ref (g 16), .ref (g 64), .ref (g 65), .ref (g 66), .ref (g 70), .ref (g 75), .ref (g 87), .ref (g 94), .int 0, .int 0, .int 0]))]) (n := 0) ⟨hx, hb, hml, hown, hT⟩ (k_X1_stands l dC dI g a ) hK hP hD hS hA [0] rfl [1, 2] [0] rfl rfl rfl rfl (by decide) rfl rfl mw_201 mw_202 mw_203 mw_27 mw_204 (by decide +kernel) ⟨Nat.le_of_ble_eq_true rfl, Nat.le_of_ble_eq_true rfl⟩ ⟨rfl, rfl⟩ rfl hl.1 (Nat.le_of_ble_eq_true rfl) rfl dX8_queue_4 ⟨Nat.zero_le _, Nat.zero_le _⟩ (fun r f1 H locs er hP hD hS => ?_)
  have hP : va_P (dC, dI) vwCl [((g 0), .inr (8, [.ref (g 1), .ref (g 2), .ref (g 4), .ref (g 16), .ref (g 64), .ref (g 65), .ref (g 66), .ref (g 70), .ref (g 75), .ref (g 87), .ref (g 94), .int 0, .int 0, .int 0])), ((g 16), .inr (1, [.ref (g 17), .ref (g 18), .ref (g 19), .ref (g 20), .ref (g 21), .ref (g 22), .ref (g 23), .ref (g 24), .ref (g 25), .ref (g 26), .ref (g 27)])), ((g 17), .inl ((a 17), 11, .inl (fun _ => 0)))] H := hP
  have hD : va_D A [((g 0), .inr (8, [.ref (g 1), .ref (g 2), .ref (g 4), .ref (g 16), .ref (g 64), .ref (g 65), .ref (g 66), .ref (g 70), .ref (g 75), .ref (g 87), .ref (g 94), .int 0, .int 0, .int 0])), ((g 16), .inr (1, [.ref (g 17), .ref (g 18), .ref (g 19), .ref (g 20), .ref (g 21), .ref (g 22), .ref (g 23), .ref (g 24), .ref (g 25), .ref (g 26), .ref (g 27)])), ((g 17), .inl ((a 17), 11, .inl (fun _ => 0)))] := hD
  have er : r = 0 := er
  subst er
  refine lv_if_ne (tgt := 13) hx hb dX8_queue_7 (by decide) (fun c2 => ?_) (fun c2 => ?_)
  · exact absurd c2 (by decide)
  · refine lv_bipush (v := (-2)) hx hb dX8_queue_10 (by decide) ?_
    exact e_i hx hb hr hlocks hP hD hS (fun _ => 0) [] rfl rfl rfl dX8_queue_12
set_option maxRecDepth 100000 in
set_option maxHeartbeats 4000000 in
theorem k_X9_queue (l : Launch) (dC : Nat → ClassId) (dI : Nat → Nat → Nat) (g : Nat → Nat) (a : Nat → ClassId)   : MI l dC dI yX9_queue (Cond.code yX9_queue cX9_queue 3 (some .int)) ({ frames := 3, cells := 0, slots := 0, locals := 65 }) [.ref (g 0)] [((a 1), .int), ((a 15), .int), ((a 17), .int), ((a 21), .boolean), ((a 16), .boolean)] [((g 0), .inr (9, oM g 0 0 0 0 0 0 (-1))), ((g 1), .inl ((a 1), 68, .inl (fun _ => 0))), ((g 15), .inl ((a 15), 6, .inl (fun _ => 0))), ((g 17), .inl ((a 17), 6, .inl (fun _ => 0))), ((g 21), .inl ((a 21), 60, .inl (fun _ => 0))), ((g 16), .inl ((a 16), 360, .inl (fun _ => 0)))] (fun r : Int32 => r = (-2)) (fun f => []) := by
  refine m_of (Qc := fun A => QI dC dI A (fun r : Int32 => r = (-2)) (fun f => [])) (lv := [(0, .ref (g 0))]) (by decide) (Nat.le_of_ble_eq_true rfl) rfl ?_
  intro p e s m below meth c A ls hx hb hr hml hT hown hlocks hname hP hK hD hS hA hl
  have hown : s.vm.findClass RX9 = some m.cls := hown
  refine lv_aload_n hx hb dX9_queue_0 rfl (lv_at hl 0 rfl) ?_
  refine c_Vi (C := RX9) (As := []) (rest := []) (wr := []) (n := 0) ⟨hx, hb, hml, hown, hT⟩ (k_X9_asksBrigade l dC dI g a ) hK hP hD hS hA [0, 1, 2, 3, 4] rfl [0, 1, 2, 3, 4, 5] [] rfl rfl rfl rfl (by decide) rfl rfl mw_130 mw_131 mw_132 mw_19 mw_133 (by decide +kernel) ⟨Nat.le_of_ble_eq_true rfl, Nat.le_of_ble_eq_true rfl⟩ ⟨rfl, rfl⟩ rfl hl.1 (Nat.le_of_ble_eq_true rfl) rfl dX9_queue_1 ⟨Nat.zero_le _, Nat.zero_le _⟩ (fun r f1 H locs er hP hD hS => ?_)
  have hP : va_P (dC, dI) vwCl [((g 0), .inr (9, oM g 0 0 0 0 0 0 (-1))), ((g 1), .inl ((a 1), 68, .inl (fun _ => 0))), ((g 15), .inl ((a 15), 6, .inl (fun _ => 0))), ((g 21), .inl ((a 21), 60, .inl (fun _ => 0))), ((g 16), .inl ((a 16), 360, .inl (fun _ => 0)))] H := hP
  have hD : va_D A [((g 0), .inr (9, oM g 0 0 0 0 0 0 (-1))), ((g 1), .inl ((a 1), 68, .inl (fun _ => 0))), ((g 15), .inl ((a 15), 6, .inl (fun _ => 0))), ((g 21), .inl ((a 21), 60, .inl (fun _ => 0))), ((g 16), .inl ((a 16), 360, .inl (fun _ => 0)))] := hD
  have er : r = 0 := er
  subst er
  refine lv_if_ne (tgt := 10) hx hb dX9_queue_4 (by decide) (fun c2 => ?_) (fun c2 => ?_)
  · exact absurd c2 (by decide)
  · refine lv_bipush (v := (-2)) hx hb dX9_queue_7 (by decide) ?_
    exact e_i hx hb hr hlocks hP hD hS (fun _ => 0) [] rfl rfl rfl dX9_queue_9
set_option maxRecDepth 100000 in
set_option maxHeartbeats 4000000 in
theorem k_X8_kept (l : Launch) (dC : Nat → ClassId) (dI : Nat → Nat → Nat) (g : Nat → Nat) (a : Nat → ClassId)   : MI l dC dI yX8_kept (Cond.code yX8_kept cX8_kept 3 (some .int)) ({ frames := 1, cells := 0, slots := 0, locals := 20 }) [.ref (g 0)] [((a 17), .int)] [((g 0), .inr (8, [.ref (g 1), .ref (g 2), .ref (g 4), .ref (g 16), .ref (g 64), .ref (g 65), .ref (g 66), .ref (g 70), .ref (g 75), .ref (g 87), .ref (g 94), .int 0, .int 0, .int 0])), ((g 16), .inr (1, [.ref (g 17), .ref (g 18), .ref (g 19), .ref (g 20), .ref (g 21), .ref (g 22), .ref (g 23), .ref (g 24), .ref (g 25), .ref (g 26), .ref (g 27)])), ((g 17), .inl ((a 17), 11, .inl (fun _ => 0)))] (fun r : Int32 => r = (-2)) (fun f => []) := by
  refine m_of (Qc := fun A => QI dC dI A (fun r : Int32 => r = (-2)) (fun f => [])) (lv := [(0, .ref (g 0))]) (by decide) (Nat.le_of_ble_eq_true rfl) rfl ?_
  intro p e s m below meth c A ls hx hb hr hml hT hown hlocks hname hP hK hD hS hA hl
  have hown : s.vm.findClass RX8 = some m.cls := hown
  refine lv_aload_n hx hb dX8_kept_0 rfl (lv_at hl 0 rfl) ?_
  refine va_get (D := (dC, dI)) (ci := 8) (v := .ref (g 16)) (C := RX8) (T := TX8) (N := 14) hx hb hT inT8 hown hK hP 0 rfl rfl 3 (by decide) (hT _ mw_45) (fun _ h9 => h9) rfl dX8_kept_1 ?_
  refine c_Vi (C := RX1) (As := []) (rest := []) (wr := [((g 0), .inr (8, [.ref (g 1), .ref (g 2), .ref (g 4), .ref (g 16), .ref (g 64), .ref (g 65), .ref (g 66), .ref (g 70), .ref (g 75), .ref (g 87), .ref (g 94), .int 0, .int 0, .int 0]))]) (n := 0) ⟨hx, hb, hml, hown, hT⟩ (k_X1_stands l dC dI g a ) hK hP hD hS hA [0] rfl [1, 2] [0] rfl rfl rfl rfl (by decide) rfl rfl mw_201 mw_202 mw_203 mw_27 mw_204 (by decide +kernel) ⟨Nat.le_of_ble_eq_true rfl, Nat.le_of_ble_eq_true rfl⟩ ⟨rfl, rfl⟩ rfl hl.1 (Nat.le_of_ble_eq_true rfl) rfl dX8_kept_4 ⟨Nat.zero_le _, Nat.zero_le _⟩ (fun r f1 H locs er hP hD hS => ?_)
  have hP : va_P (dC, dI) vwCl [((g 0), .inr (8, [.ref (g 1), .ref (g 2), .ref (g 4), .ref (g 16), .ref (g 64), .ref (g 65), .ref (g 66), .ref (g 70), .ref (g 75), .ref (g 87), .ref (g 94), .int 0, .int 0, .int 0])), ((g 16), .inr (1, [.ref (g 17), .ref (g 18), .ref (g 19), .ref (g 20), .ref (g 21), .ref (g 22), .ref (g 23), .ref (g 24), .ref (g 25), .ref (g 26), .ref (g 27)])), ((g 17), .inl ((a 17), 11, .inl (fun _ => 0)))] H := hP
  have hD : va_D A [((g 0), .inr (8, [.ref (g 1), .ref (g 2), .ref (g 4), .ref (g 16), .ref (g 64), .ref (g 65), .ref (g 66), .ref (g 70), .ref (g 75), .ref (g 87), .ref (g 94), .int 0, .int 0, .int 0])), ((g 16), .inr (1, [.ref (g 17), .ref (g 18), .ref (g 19), .ref (g 20), .ref (g 21), .ref (g 22), .ref (g 23), .ref (g 24), .ref (g 25), .ref (g 26), .ref (g 27)])), ((g 17), .inl ((a 17), 11, .inl (fun _ => 0)))] := hD
  have er : r = 0 := er
  subst er
  refine lv_if_ne (tgt := 13) hx hb dX8_kept_7 (by decide) (fun c2 => ?_) (fun c2 => ?_)
  · exact absurd c2 (by decide)
  · refine lv_bipush (v := (-2)) hx hb dX8_kept_10 (by decide) ?_
    exact e_i hx hb hr hlocks hP hD hS (fun _ => 0) [] rfl rfl rfl dX8_kept_12
set_option maxRecDepth 100000 in
set_option maxHeartbeats 4000000 in
theorem k_X9_kept (l : Launch) (dC : Nat → ClassId) (dI : Nat → Nat → Nat) (g : Nat → Nat) (a : Nat → ClassId)   : MI l dC dI yX9_kept (Cond.code yX9_kept cX9_kept 3 (some .int)) ({ frames := 1, cells := 0, slots := 0, locals := 20 }) [.ref (g 0)] [((a 1), .int)] [((g 0), .inr (9, oM g 0 0 0 0 0 0 (-1))), ((g 1), .inl ((a 1), 68, .inl (fun _ => 0)))] (fun r : Int32 => r = (-2)) (fun f => []) := by
  refine m_of (Qc := fun A => QI dC dI A (fun r : Int32 => r = (-2)) (fun f => [])) (lv := [(0, .ref (g 0))]) (by decide) (Nat.le_of_ble_eq_true rfl) rfl ?_
  intro p e s m below meth c A ls hx hb hr hml hT hown hlocks hname hP hK hD hS hA hl
  have hown : s.vm.findClass RX9 = some m.cls := hown
  refine lv_aload_n hx hb dX9_kept_0 rfl (lv_at hl 0 rfl) ?_
  refine c_Vi (C := RX9) (As := []) (rest := []) (wr := []) (n := 0) ⟨hx, hb, hml, hown, hT⟩ (k_X9_isBrigade l dC dI g a ) hK hP hD hS hA [0] rfl [0, 1] [] rfl rfl rfl rfl (by decide) rfl rfl mw_126 mw_127 mw_128 mw_19 mw_129 (by decide +kernel) ⟨Nat.le_of_ble_eq_true rfl, Nat.le_of_ble_eq_true rfl⟩ ⟨rfl, rfl⟩ rfl hl.1 (Nat.le_of_ble_eq_true rfl) rfl dX9_kept_1 ⟨Nat.zero_le _, Nat.zero_le _⟩ (fun r f1 H locs er hP hD hS => ?_)
  have hP : va_P (dC, dI) vwCl [((g 0), .inr (9, oM g 0 0 0 0 0 0 (-1))), ((g 1), .inl ((a 1), 68, .inl (fun _ => 0)))] H := hP
  have hD : va_D A [((g 0), .inr (9, oM g 0 0 0 0 0 0 (-1))), ((g 1), .inl ((a 1), 68, .inl (fun _ => 0)))] := hD
  have er : r = 0 := er
  subst er
  refine lv_if_ne (tgt := 10) hx hb dX9_kept_4 (by decide) (fun c2 => ?_) (fun c2 => ?_)
  · exact absurd c2 (by decide)
  · refine lv_bipush (v := (-2)) hx hb dX9_kept_7 (by decide) ?_
    exact e_i hx hb hr hlocks hP hD hS (fun _ => 0) [] rfl rfl rfl dX9_kept_9
set_option maxRecDepth 100000 in
set_option maxHeartbeats 4000000 in
theorem k_X8_until (l : Launch) (dC : Nat → ClassId) (dI : Nat → Nat → Nat) (g : Nat → Nat) (a : Nat → ClassId) (p0 : Int32)  : MI l dC dI yX8_until (Cond.code yX8_until cX8_until 3 (some .int)) ({ frames := 1, cells := 0, slots := 0, locals := 20 }) [.ref (g 0), .int p0] [((a 17), .int)] [((g 0), .inr (8, [.ref (g 1), .ref (g 2), .ref (g 4), .ref (g 16), .ref (g 64), .ref (g 65), .ref (g 66), .ref (g 70), .ref (g 75), .ref (g 87), .ref (g 94), .int 0, .int 0, .int 0])), ((g 16), .inr (1, [.ref (g 17), .ref (g 18), .ref (g 19), .ref (g 20), .ref (g 21), .ref (g 22), .ref (g 23), .ref (g 24), .ref (g 25), .ref (g 26), .ref (g 27)])), ((g 17), .inl ((a 17), 11, .inl (fun _ => 0)))] (fun r : Int32 => r = (-2)) (fun f => []) := by
  refine m_of (Qc := fun A => QI dC dI A (fun r : Int32 => r = (-2)) (fun f => [])) (lv := [(0, .ref (g 0)), (1, .int p0)]) (by decide) (Nat.le_of_ble_eq_true rfl) rfl ?_
  intro p e s m below meth c A ls hx hb hr hml hT hown hlocks hname hP hK hD hS hA hl
  have hown : s.vm.findClass RX8 = some m.cls := hown
  refine lv_iload_n hx hb dX8_until_0 rfl (lv_at hl 1 rfl) ?_
  refine lv_if_lt (tgt := 14) hx hb dX8_until_1 (by decide) (fun c1 => ?_) (fun c1 => ?_)
  · have c1 := i_lt p0.toInt 0 rfl (by decide) c1
    refine lv_bipush (v := (-2)) hx hb dX8_until_14 (by decide) ?_
    exact e_i hx hb hr hlocks hP hD hS (fun _ => 0) [] rfl rfl rfl dX8_until_16
  · have c1 := i_nlt p0.toInt 0 rfl (by decide) c1
    refine lv_aload_n hx hb dX8_until_4 rfl (lv_at hl 0 rfl) ?_
    refine va_get (D := (dC, dI)) (ci := 8) (v := .ref (g 16)) (C := RX8) (T := TX8) (N := 14) hx hb hT inT8 hown hK hP 0 rfl rfl 3 (by decide) (hT _ mw_45) (fun _ h9 => h9) rfl dX8_until_5 ?_
    refine c_Vi (C := RX1) (As := []) (rest := []) (wr := [((g 0), .inr (8, [.ref (g 1), .ref (g 2), .ref (g 4), .ref (g 16), .ref (g 64), .ref (g 65), .ref (g 66), .ref (g 70), .ref (g 75), .ref (g 87), .ref (g 94), .int 0, .int 0, .int 0]))]) (n := 0) ⟨hx, hb, hml, hown, hT⟩ (k_X1_stands l dC dI g a ) hK hP hD hS hA [0] rfl [1, 2] [0] rfl rfl rfl rfl (by decide) rfl rfl mw_201 mw_202 mw_203 mw_27 mw_204 (by decide +kernel) ⟨Nat.le_of_ble_eq_true rfl, Nat.le_of_ble_eq_true rfl⟩ ⟨rfl, rfl⟩ rfl hl.1 (Nat.le_of_ble_eq_true rfl) rfl dX8_until_8 ⟨Nat.zero_le _, Nat.zero_le _⟩ (fun r f2 H locs er hP hD hS => ?_)
    have hP : va_P (dC, dI) vwCl [((g 0), .inr (8, [.ref (g 1), .ref (g 2), .ref (g 4), .ref (g 16), .ref (g 64), .ref (g 65), .ref (g 66), .ref (g 70), .ref (g 75), .ref (g 87), .ref (g 94), .int 0, .int 0, .int 0])), ((g 16), .inr (1, [.ref (g 17), .ref (g 18), .ref (g 19), .ref (g 20), .ref (g 21), .ref (g 22), .ref (g 23), .ref (g 24), .ref (g 25), .ref (g 26), .ref (g 27)])), ((g 17), .inl ((a 17), 11, .inl (fun _ => 0)))] H := hP
    have hD : va_D A [((g 0), .inr (8, [.ref (g 1), .ref (g 2), .ref (g 4), .ref (g 16), .ref (g 64), .ref (g 65), .ref (g 66), .ref (g 70), .ref (g 75), .ref (g 87), .ref (g 94), .int 0, .int 0, .int 0])), ((g 16), .inr (1, [.ref (g 17), .ref (g 18), .ref (g 19), .ref (g 20), .ref (g 21), .ref (g 22), .ref (g 23), .ref (g 24), .ref (g 25), .ref (g 26), .ref (g 27)])), ((g 17), .inl ((a 17), 11, .inl (fun _ => 0)))] := hD
    have er : r = 0 := er
    subst er
    refine lv_if_ne (tgt := 17) hx hb dX8_until_11 (by decide) (fun c3 => ?_) (fun c3 => ?_)
    · exact absurd c3 (by decide)
    · refine lv_bipush (v := (-2)) hx hb dX8_until_14 (by decide) ?_
      exact e_i hx hb hr hlocks hP hD hS (fun _ => 0) [] rfl rfl rfl dX8_until_16
set_option maxRecDepth 100000 in
set_option maxHeartbeats 4000000 in
theorem k_X9_until (l : Launch) (dC : Nat → ClassId) (dI : Nat → Nat → Nat) (g : Nat → Nat) (a : Nat → ClassId) (p0 : Int32)  : MI l dC dI yX9_until (Cond.code yX9_until cX9_until 3 (some .int)) ({ frames := 3, cells := 0, slots := 0, locals := 65 }) [.ref (g 0), .int p0] [((a 1), .int), ((a 15), .int), ((a 17), .int), ((a 21), .boolean), ((a 16), .boolean)] [((g 0), .inr (9, oM g 0 0 0 0 0 0 (-1))), ((g 1), .inl ((a 1), 68, .inl (fun _ => 0))), ((g 15), .inl ((a 15), 6, .inl (fun _ => 0))), ((g 17), .inl ((a 17), 6, .inl (fun _ => 0))), ((g 21), .inl ((a 21), 60, .inl (fun _ => 0))), ((g 16), .inl ((a 16), 360, .inl (fun _ => 0)))] (fun r : Int32 => r = (-2)) (fun f => []) := by
  refine m_of (Qc := fun A => QI dC dI A (fun r : Int32 => r = (-2)) (fun f => [])) (lv := [(0, .ref (g 0)), (1, .int p0)]) (by decide) (Nat.le_of_ble_eq_true rfl) rfl ?_
  intro p e s m below meth c A ls hx hb hr hml hT hown hlocks hname hP hK hD hS hA hl
  have hown : s.vm.findClass RX9 = some m.cls := hown
  refine lv_aload_n hx hb dX9_until_0 rfl (lv_at hl 0 rfl) ?_
  refine c_Vi (C := RX9) (As := []) (rest := []) (wr := []) (n := 0) ⟨hx, hb, hml, hown, hT⟩ (k_X9_asksBrigade l dC dI g a ) hK hP hD hS hA [0, 1, 2, 3, 4] rfl [0, 1, 2, 3, 4, 5] [] rfl rfl rfl rfl (by decide) rfl rfl mw_130 mw_131 mw_132 mw_19 mw_133 (by decide +kernel) ⟨Nat.le_of_ble_eq_true rfl, Nat.le_of_ble_eq_true rfl⟩ ⟨rfl, rfl⟩ rfl hl.1 (Nat.le_of_ble_eq_true rfl) rfl dX9_until_1 ⟨Nat.zero_le _, Nat.zero_le _⟩ (fun r f1 H locs er hP hD hS => ?_)
  have hP : va_P (dC, dI) vwCl [((g 0), .inr (9, oM g 0 0 0 0 0 0 (-1))), ((g 1), .inl ((a 1), 68, .inl (fun _ => 0))), ((g 15), .inl ((a 15), 6, .inl (fun _ => 0))), ((g 21), .inl ((a 21), 60, .inl (fun _ => 0))), ((g 16), .inl ((a 16), 360, .inl (fun _ => 0)))] H := hP
  have hD : va_D A [((g 0), .inr (9, oM g 0 0 0 0 0 0 (-1))), ((g 1), .inl ((a 1), 68, .inl (fun _ => 0))), ((g 15), .inl ((a 15), 6, .inl (fun _ => 0))), ((g 21), .inl ((a 21), 60, .inl (fun _ => 0))), ((g 16), .inl ((a 16), 360, .inl (fun _ => 0)))] := hD
  have er : r = 0 := er
  subst er
  refine lv_if_eq (tgt := 11) hx hb dX9_until_4 (by decide) (fun c2 => ?_) (fun c2 => ?_)
  · refine lv_bipush (v := (-2)) hx hb dX9_until_11 (by decide) ?_
    exact e_i hx hb hr hlocks hP hD hS (fun _ => 0) [] rfl rfl rfl dX9_until_13
  · exact absurd c2 (by decide)
set_option maxRecDepth 100000 in
set_option maxHeartbeats 4000000 in
theorem k_X8_with (l : Launch) (dC : Nat → ClassId) (dI : Nat → Nat → Nat) (g : Nat → Nat) (a : Nat → ClassId) (p0 : Int32)  : MI l dC dI yX8_with (Cond.code yX8_with cX8_with 2 (some .int)) ({ frames := 1, cells := 0, slots := 0, locals := 20 }) [.ref (g 0), .int p0] [((a 17), .int)] [((g 0), .inr (8, [.ref (g 1), .ref (g 2), .ref (g 4), .ref (g 16), .ref (g 64), .ref (g 65), .ref (g 66), .ref (g 70), .ref (g 75), .ref (g 87), .ref (g 94), .int 0, .int 0, .int 0])), ((g 16), .inr (1, [.ref (g 17), .ref (g 18), .ref (g 19), .ref (g 20), .ref (g 21), .ref (g 22), .ref (g 23), .ref (g 24), .ref (g 25), .ref (g 26), .ref (g 27)])), ((g 17), .inl ((a 17), 11, .inl (fun _ => 0)))] (fun r : Int32 => r = (-2)) (fun f => []) := by
  refine m_of (Qc := fun A => QI dC dI A (fun r : Int32 => r = (-2)) (fun f => [])) (lv := [(0, .ref (g 0)), (1, .int p0)]) (by decide) (Nat.le_of_ble_eq_true rfl) rfl ?_
  intro p e s m below meth c A ls hx hb hr hml hT hown hlocks hname hP hK hD hS hA hl
  have hown : s.vm.findClass RX8 = some m.cls := hown
  refine lv_iload_n hx hb dX8_with_0 rfl (lv_at hl 1 rfl) ?_
  refine lv_iconst (v := 1) hx hb dX8_with_1 (by decide) ?_
  refine lv_icmp_lt (tgt := 21) hx hb dX8_with_2 (by decide) (fun c1 => ?_) (fun c1 => ?_)
  · have c1 := i_lt p0.toInt 1 rfl (by decide) c1
    refine lv_bipush (v := (-2)) hx hb dX8_with_21 (by decide) ?_
    exact e_i hx hb hr hlocks hP hD hS (fun _ => 0) [] rfl rfl rfl dX8_with_23
  · have c1 := i_nlt p0.toInt 1 rfl (by decide) c1
    refine lv_iload_n hx hb dX8_with_5 rfl (lv_at hl 1 rfl) ?_
    refine lv_bipush (v := 8) hx hb dX8_with_6 (by decide) ?_
    refine lv_icmp_gt (tgt := 21) hx hb dX8_with_8 (by decide) (fun c2 => ?_) (fun c2 => ?_)
    · have c2 := i_lt 8 p0.toInt (by decide) rfl c2
      refine lv_bipush (v := (-2)) hx hb dX8_with_21 (by decide) ?_
      exact e_i hx hb hr hlocks hP hD hS (fun _ => 0) [] rfl rfl rfl dX8_with_23
    · have c2 := i_nlt 8 p0.toInt (by decide) rfl c2
      refine lv_aload_n hx hb dX8_with_11 rfl (lv_at hl 0 rfl) ?_
      refine va_get (D := (dC, dI)) (ci := 8) (v := .ref (g 16)) (C := RX8) (T := TX8) (N := 14) hx hb hT inT8 hown hK hP 0 rfl rfl 3 (by decide) (hT _ mw_45) (fun _ h9 => h9) rfl dX8_with_12 ?_
      refine c_Vi (C := RX1) (As := []) (rest := []) (wr := [((g 0), .inr (8, [.ref (g 1), .ref (g 2), .ref (g 4), .ref (g 16), .ref (g 64), .ref (g 65), .ref (g 66), .ref (g 70), .ref (g 75), .ref (g 87), .ref (g 94), .int 0, .int 0, .int 0]))]) (n := 0) ⟨hx, hb, hml, hown, hT⟩ (k_X1_stands l dC dI g a ) hK hP hD hS hA [0] rfl [1, 2] [0] rfl rfl rfl rfl (by decide) rfl rfl mw_201 mw_202 mw_203 mw_27 mw_204 (by decide +kernel) ⟨Nat.le_of_ble_eq_true rfl, Nat.le_of_ble_eq_true rfl⟩ ⟨rfl, rfl⟩ rfl hl.1 (Nat.le_of_ble_eq_true rfl) rfl dX8_with_15 ⟨Nat.zero_le _, Nat.zero_le _⟩ (fun r f3 H locs er hP hD hS => ?_)
      have hP : va_P (dC, dI) vwCl [((g 0), .inr (8, [.ref (g 1), .ref (g 2), .ref (g 4), .ref (g 16), .ref (g 64), .ref (g 65), .ref (g 66), .ref (g 70), .ref (g 75), .ref (g 87), .ref (g 94), .int 0, .int 0, .int 0])), ((g 16), .inr (1, [.ref (g 17), .ref (g 18), .ref (g 19), .ref (g 20), .ref (g 21), .ref (g 22), .ref (g 23), .ref (g 24), .ref (g 25), .ref (g 26), .ref (g 27)])), ((g 17), .inl ((a 17), 11, .inl (fun _ => 0)))] H := hP
      have hD : va_D A [((g 0), .inr (8, [.ref (g 1), .ref (g 2), .ref (g 4), .ref (g 16), .ref (g 64), .ref (g 65), .ref (g 66), .ref (g 70), .ref (g 75), .ref (g 87), .ref (g 94), .int 0, .int 0, .int 0])), ((g 16), .inr (1, [.ref (g 17), .ref (g 18), .ref (g 19), .ref (g 20), .ref (g 21), .ref (g 22), .ref (g 23), .ref (g 24), .ref (g 25), .ref (g 26), .ref (g 27)])), ((g 17), .inl ((a 17), 11, .inl (fun _ => 0)))] := hD
      have er : r = 0 := er
      subst er
      refine lv_if_ne (tgt := 24) hx hb dX8_with_18 (by decide) (fun c4 => ?_) (fun c4 => ?_)
      · exact absurd c4 (by decide)
      · refine lv_bipush (v := (-2)) hx hb dX8_with_21 (by decide) ?_
        exact e_i hx hb hr hlocks hP hD hS (fun _ => 0) [] rfl rfl rfl dX8_with_23
set_option maxRecDepth 100000 in
set_option maxHeartbeats 4000000 in
theorem k_X9_with (l : Launch) (dC : Nat → ClassId) (dI : Nat → Nat → Nat) (g : Nat → Nat) (a : Nat → ClassId) (p0 : Int32)  : MI l dC dI yX9_with (Cond.code yX9_with cX9_with 2 (some .int)) ({ frames := 1, cells := 0, slots := 0, locals := 20 }) [.ref (g 0), .int p0] [((a 1), .int)] [((g 0), .inr (9, oM g 0 0 0 0 0 0 (-1))), ((g 1), .inl ((a 1), 68, .inl (fun _ => 0)))] (fun r : Int32 => r = (-2)) (fun f => []) := by
  refine m_of (Qc := fun A => QI dC dI A (fun r : Int32 => r = (-2)) (fun f => [])) (lv := [(0, .ref (g 0)), (1, .int p0)]) (by decide) (Nat.le_of_ble_eq_true rfl) rfl ?_
  intro p e s m below meth c A ls hx hb hr hml hT hown hlocks hname hP hK hD hS hA hl
  have hown : s.vm.findClass RX9 = some m.cls := hown
  refine lv_aload_n hx hb dX9_with_0 rfl (lv_at hl 0 rfl) ?_
  refine c_Vi (C := RX9) (As := []) (rest := []) (wr := []) (n := 0) ⟨hx, hb, hml, hown, hT⟩ (k_X9_isBrigade l dC dI g a ) hK hP hD hS hA [0] rfl [0, 1] [] rfl rfl rfl rfl (by decide) rfl rfl mw_126 mw_127 mw_128 mw_19 mw_129 (by decide +kernel) ⟨Nat.le_of_ble_eq_true rfl, Nat.le_of_ble_eq_true rfl⟩ ⟨rfl, rfl⟩ rfl hl.1 (Nat.le_of_ble_eq_true rfl) rfl dX9_with_1 ⟨Nat.zero_le _, Nat.zero_le _⟩ (fun r f1 H locs er hP hD hS => ?_)
  have hP : va_P (dC, dI) vwCl [((g 0), .inr (9, oM g 0 0 0 0 0 0 (-1))), ((g 1), .inl ((a 1), 68, .inl (fun _ => 0)))] H := hP
  have hD : va_D A [((g 0), .inr (9, oM g 0 0 0 0 0 0 (-1))), ((g 1), .inl ((a 1), 68, .inl (fun _ => 0)))] := hD
  have er : r = 0 := er
  subst er
  refine lv_if_eq (tgt := 19) hx hb dX9_with_4 (by decide) (fun c2 => ?_) (fun c2 => ?_)
  · refine lv_bipush (v := (-2)) hx hb dX9_with_19 (by decide) ?_
    exact e_i hx hb hr hlocks hP hD hS (fun _ => 0) [] rfl rfl rfl dX9_with_21
  · exact absurd c2 (by decide)
set_option maxRecDepth 100000 in
set_option maxHeartbeats 4000000 in
theorem k_X8_ease (l : Launch) (dC : Nat → ClassId) (dI : Nat → Nat → Nat) (g : Nat → Nat) (a : Nat → ClassId) (p0 : Int32)  : MI l dC dI yX8_ease (Cond.code yX8_ease cX8_ease 5 (some .int)) ({ frames := 1, cells := 0, slots := 0, locals := 21 }) [.ref (g 0), .int p0] [((a 17), .int)] [((g 0), .inr (8, [.ref (g 1), .ref (g 2), .ref (g 4), .ref (g 16), .ref (g 64), .ref (g 65), .ref (g 66), .ref (g 70), .ref (g 75), .ref (g 87), .ref (g 94), .int 0, .int 0, .int 0])), ((g 16), .inr (1, [.ref (g 17), .ref (g 18), .ref (g 19), .ref (g 20), .ref (g 21), .ref (g 22), .ref (g 23), .ref (g 24), .ref (g 25), .ref (g 26), .ref (g 27)])), ((g 17), .inl ((a 17), 11, .inl (fun _ => 0)))] (fun r : Int32 => r = (-2)) (fun f => []) := by
  refine m_of (Qc := fun A => QI dC dI A (fun r : Int32 => r = (-2)) (fun f => [])) (lv := [(0, .ref (g 0)), (1, .int p0)]) (by decide) (Nat.le_of_ble_eq_true rfl) rfl ?_
  intro p e s m below meth c A ls hx hb hr hml hT hown hlocks hname hP hK hD hS hA hl
  have hown : s.vm.findClass RX8 = some m.cls := hown
  refine lv_aload_n hx hb dX8_ease_0 rfl (lv_at hl 0 rfl) ?_
  refine va_get (D := (dC, dI)) (ci := 8) (v := .ref (g 16)) (C := RX8) (T := TX8) (N := 14) hx hb hT inT8 hown hK hP 0 rfl rfl 3 (by decide) (hT _ mw_45) (fun _ h9 => h9) rfl dX8_ease_1 ?_
  refine lv_iload_n hx hb dX8_ease_4 rfl (lv_at hl 1 rfl) ?_
  refine c_Vi (C := RX1) (As := [.int p0]) (rest := []) (wr := [((g 0), .inr (8, [.ref (g 1), .ref (g 2), .ref (g 4), .ref (g 16), .ref (g 64), .ref (g 65), .ref (g 66), .ref (g 70), .ref (g 75), .ref (g 87), .ref (g 94), .int 0, .int 0, .int 0]))]) (n := 1) ⟨hx, hb, hml, hown, hT⟩ (k_X1_hasHand l dC dI g a p0) hK hP hD hS hA [0] rfl [1, 2] [0] rfl rfl rfl rfl (by decide) rfl rfl mw_99 mw_100 mw_101 mw_27 mw_102 (by decide +kernel) ⟨Nat.le_of_ble_eq_true rfl, Nat.le_of_ble_eq_true rfl⟩ ⟨rfl, rfl⟩ rfl hl.1 (Nat.le_of_ble_eq_true rfl) rfl dX8_ease_5 ⟨Nat.zero_le _, Nat.zero_le _⟩ (fun r f1 H locs er hP hD hS => ?_)
  have hP : va_P (dC, dI) vwCl [((g 0), .inr (8, [.ref (g 1), .ref (g 2), .ref (g 4), .ref (g 16), .ref (g 64), .ref (g 65), .ref (g 66), .ref (g 70), .ref (g 75), .ref (g 87), .ref (g 94), .int 0, .int 0, .int 0])), ((g 16), .inr (1, [.ref (g 17), .ref (g 18), .ref (g 19), .ref (g 20), .ref (g 21), .ref (g 22), .ref (g 23), .ref (g 24), .ref (g 25), .ref (g 26), .ref (g 27)])), ((g 17), .inl ((a 17), 11, .inl (fun _ => 0)))] H := hP
  have hD : va_D A [((g 0), .inr (8, [.ref (g 1), .ref (g 2), .ref (g 4), .ref (g 16), .ref (g 64), .ref (g 65), .ref (g 66), .ref (g 70), .ref (g 75), .ref (g 87), .ref (g 94), .int 0, .int 0, .int 0])), ((g 16), .inr (1, [.ref (g 17), .ref (g 18), .ref (g 19), .ref (g 20), .ref (g 21), .ref (g 22), .ref (g 23), .ref (g 24), .ref (g 25), .ref (g 26), .ref (g 27)])), ((g 17), .inl ((a 17), 11, .inl (fun _ => 0)))] := hD
  have er : r = 0 := er
  subst er
  refine lv_if_ne (tgt := 14) hx hb dX8_ease_8 (by decide) (fun c2 => ?_) (fun c2 => ?_)
  · exact absurd c2 (by decide)
  · refine lv_bipush (v := (-2)) hx hb dX8_ease_11 (by decide) ?_
    exact e_i hx hb hr hlocks hP hD hS (fun _ => 0) [] rfl rfl rfl dX8_ease_13
set_option maxRecDepth 100000 in
set_option maxHeartbeats 4000000 in
theorem k_X9_ease (l : Launch) (dC : Nat → ClassId) (dI : Nat → Nat → Nat) (g : Nat → Nat) (a : Nat → ClassId) (p0 : Int32)  : MI l dC dI yX9_ease (Cond.code yX9_ease cX9_ease 6 (some .int)) ({ frames := 4, cells := 0, slots := 0, locals := 86 }) [.ref (g 0), .int p0] [((a 1), .int), ((a 15), .int), ((a 17), .int), ((a 21), .boolean), ((a 16), .boolean)] [((g 0), .inr (9, oM g 0 0 0 0 0 0 (-1))), ((g 1), .inl ((a 1), 68, .inl (fun _ => 0))), ((g 15), .inl ((a 15), 6, .inl (fun _ => 0))), ((g 17), .inl ((a 17), 6, .inl (fun _ => 0))), ((g 21), .inl ((a 21), 60, .inl (fun _ => 0))), ((g 16), .inl ((a 16), 360, .inl (fun _ => 0)))] (fun r : Int32 => r = (-2)) (fun f => []) := by
  refine m_of (Qc := fun A => QI dC dI A (fun r : Int32 => r = (-2)) (fun f => [])) (lv := [(0, .ref (g 0)), (1, .int p0)]) (by decide) (Nat.le_of_ble_eq_true rfl) rfl ?_
  intro p e s m below meth c A ls hx hb hr hml hT hown hlocks hname hP hK hD hS hA hl
  have hown : s.vm.findClass RX9 = some m.cls := hown
  refine lv_aload_n hx hb dX9_ease_0 rfl (lv_at hl 0 rfl) ?_
  refine lv_iload_n hx hb dX9_ease_1 rfl (lv_at hl 1 rfl) ?_
  refine c_Vi (C := RX9) (As := [.int p0]) (rest := []) (wr := []) (n := 1) ⟨hx, hb, hml, hown, hT⟩ (k_X9_asksHand l dC dI g a p0) hK hP hD hS hA [0, 1, 2, 3, 4] rfl [0, 1, 2, 3, 4, 5] [] rfl rfl rfl rfl (by decide) rfl rfl mw_193 mw_194 mw_195 mw_19 mw_196 (by decide +kernel) ⟨Nat.le_of_ble_eq_true rfl, Nat.le_of_ble_eq_true rfl⟩ ⟨rfl, rfl⟩ rfl hl.1 (Nat.le_of_ble_eq_true rfl) rfl dX9_ease_2 ⟨Nat.zero_le _, Nat.zero_le _⟩ (fun r f1 H locs er hP hD hS => ?_)
  have hP : va_P (dC, dI) vwCl [((g 0), .inr (9, oM g 0 0 0 0 0 0 (-1))), ((g 1), .inl ((a 1), 68, .inl (fun _ => 0))), ((g 15), .inl ((a 15), 6, .inl (fun _ => 0))), ((g 21), .inl ((a 21), 60, .inl (fun _ => 0))), ((g 16), .inl ((a 16), 360, .inl (fun _ => 0)))] H := hP
  have hD : va_D A [((g 0), .inr (9, oM g 0 0 0 0 0 0 (-1))), ((g 1), .inl ((a 1), 68, .inl (fun _ => 0))), ((g 15), .inl ((a 15), 6, .inl (fun _ => 0))), ((g 21), .inl ((a 21), 60, .inl (fun _ => 0))), ((g 16), .inl ((a 16), 360, .inl (fun _ => 0)))] := hD
  have er : r = 0 := er
  subst er
  refine lv_if_ne (tgt := 11) hx hb dX9_ease_5 (by decide) (fun c2 => ?_) (fun c2 => ?_)
  · exact absurd c2 (by decide)
  · refine lv_bipush (v := (-2)) hx hb dX9_ease_8 (by decide) ?_
    exact e_i hx hb hr hlocks hP hD hS (fun _ => 0) [] rfl rfl rfl dX9_ease_10
set_option maxRecDepth 100000 in
set_option maxHeartbeats 4000000 in
theorem k_X8_without (l : Launch) (dC : Nat → ClassId) (dI : Nat → Nat → Nat) (g : Nat → Nat) (a : Nat → ClassId) (p0 : Int32)  : MI l dC dI yX8_without (Cond.code yX8_without cX8_without 2 (some .int)) ({ frames := 1, cells := 0, slots := 0, locals := 21 }) [.ref (g 0), .int p0] [((a 17), .int)] [((g 0), .inr (8, [.ref (g 1), .ref (g 2), .ref (g 4), .ref (g 16), .ref (g 64), .ref (g 65), .ref (g 66), .ref (g 70), .ref (g 75), .ref (g 87), .ref (g 94), .int 0, .int 0, .int 0])), ((g 16), .inr (1, [.ref (g 17), .ref (g 18), .ref (g 19), .ref (g 20), .ref (g 21), .ref (g 22), .ref (g 23), .ref (g 24), .ref (g 25), .ref (g 26), .ref (g 27)])), ((g 17), .inl ((a 17), 11, .inl (fun _ => 0)))] (fun r : Int32 => r = (-2)) (fun f => []) := by
  refine m_of (Qc := fun A => QI dC dI A (fun r : Int32 => r = (-2)) (fun f => [])) (lv := [(0, .ref (g 0)), (1, .int p0)]) (by decide) (Nat.le_of_ble_eq_true rfl) rfl ?_
  intro p e s m below meth c A ls hx hb hr hml hT hown hlocks hname hP hK hD hS hA hl
  have hown : s.vm.findClass RX8 = some m.cls := hown
  refine lv_aload_n hx hb dX8_without_0 rfl (lv_at hl 0 rfl) ?_
  refine va_get (D := (dC, dI)) (ci := 8) (v := .ref (g 16)) (C := RX8) (T := TX8) (N := 14) hx hb hT inT8 hown hK hP 0 rfl rfl 3 (by decide) (hT _ mw_45) (fun _ h9 => h9) rfl dX8_without_1 ?_
  refine lv_iload_n hx hb dX8_without_4 rfl (lv_at hl 1 rfl) ?_
  refine c_Vi (C := RX1) (As := [.int p0]) (rest := []) (wr := [((g 0), .inr (8, [.ref (g 1), .ref (g 2), .ref (g 4), .ref (g 16), .ref (g 64), .ref (g 65), .ref (g 66), .ref (g 70), .ref (g 75), .ref (g 87), .ref (g 94), .int 0, .int 0, .int 0]))]) (n := 1) ⟨hx, hb, hml, hown, hT⟩ (k_X1_hasHand l dC dI g a p0) hK hP hD hS hA [0] rfl [1, 2] [0] rfl rfl rfl rfl (by decide) rfl rfl mw_99 mw_100 mw_101 mw_27 mw_102 (by decide +kernel) ⟨Nat.le_of_ble_eq_true rfl, Nat.le_of_ble_eq_true rfl⟩ ⟨rfl, rfl⟩ rfl hl.1 (Nat.le_of_ble_eq_true rfl) rfl dX8_without_5 ⟨Nat.zero_le _, Nat.zero_le _⟩ (fun r f1 H locs er hP hD hS => ?_)
  have hP : va_P (dC, dI) vwCl [((g 0), .inr (8, [.ref (g 1), .ref (g 2), .ref (g 4), .ref (g 16), .ref (g 64), .ref (g 65), .ref (g 66), .ref (g 70), .ref (g 75), .ref (g 87), .ref (g 94), .int 0, .int 0, .int 0])), ((g 16), .inr (1, [.ref (g 17), .ref (g 18), .ref (g 19), .ref (g 20), .ref (g 21), .ref (g 22), .ref (g 23), .ref (g 24), .ref (g 25), .ref (g 26), .ref (g 27)])), ((g 17), .inl ((a 17), 11, .inl (fun _ => 0)))] H := hP
  have hD : va_D A [((g 0), .inr (8, [.ref (g 1), .ref (g 2), .ref (g 4), .ref (g 16), .ref (g 64), .ref (g 65), .ref (g 66), .ref (g 70), .ref (g 75), .ref (g 87), .ref (g 94), .int 0, .int 0, .int 0])), ((g 16), .inr (1, [.ref (g 17), .ref (g 18), .ref (g 19), .ref (g 20), .ref (g 21), .ref (g 22), .ref (g 23), .ref (g 24), .ref (g 25), .ref (g 26), .ref (g 27)])), ((g 17), .inl ((a 17), 11, .inl (fun _ => 0)))] := hD
  have er : r = 0 := er
  subst er
  refine lv_if_eq (tgt := 31) hx hb dX8_without_8 (by decide) (fun c2 => ?_) (fun c2 => ?_)
  · refine lv_bipush (v := (-2)) hx hb dX8_without_31 (by decide) ?_
    exact e_i hx hb hr hlocks hP hD hS (fun _ => 0) [] rfl rfl rfl dX8_without_33
  · exact absurd c2 (by decide)
