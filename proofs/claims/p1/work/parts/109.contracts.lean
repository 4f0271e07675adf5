set_option maxRecDepth 100000 in
set_option maxHeartbeats 4000000 in
theorem k_X9_paces (l : Launch) (dC : Nat → ClassId) (dI : Nat → Nat → Nat) (g : Nat → Nat) (a : Nat → ClassId) (p0 : Int32) (p1 : Int32)  : MI l dC dI yX9_paces (Cond.code yX9_paces cX9_paces 4 (some .int)) ({ frames := 2, cells := 0, slots := 0, locals := 46 }) [.ref (g 0), .int p0, .int p1] [((a 1), .int)] [((g 0), .inr (9, oM g 0 0 0 0 0 0 (-1))), ((g 1), .inl ((a 1), 68, .inl (fun _ => 0)))] (fun r : Int32 => r = (-2)) (fun f => []) := by
  refine m_of (Qc := fun A => QI dC dI A (fun r : Int32 => r = (-2)) (fun f => [])) (lv := [(0, .ref (g 0)), (1, .int p0), (2, .int p1)]) (by decide) (Nat.le_of_ble_eq_true rfl) rfl ?_
  intro p e s m below meth c A ls hx hb hr hml hT hown hlocks hname hP hK hD hS hA hl
  have hown : s.vm.findClass RX9 = some m.cls := hown
  refine lv_aload_n hx hb dX9_paces_0 rfl (lv_at hl 0 rfl) ?_
  refine lv_iload_n hx hb dX9_paces_1 rfl (lv_at hl 1 rfl) ?_
  refine c_Vi (C := RX9) (As := [.int p0]) (rest := []) (wr := []) (n := 1) ⟨hx, hb, hml, hown, hT⟩ (k_X9_isHand l dC dI g a p0) hK hP hD hS hA [0] rfl [0, 1] [] rfl rfl rfl rfl (by decide) rfl rfl mw_118 mw_119 mw_120 mw_19 mw_121 (by decide +kernel) ⟨Nat.le_of_ble_eq_true rfl, Nat.le_of_ble_eq_true rfl⟩ ⟨rfl, rfl⟩ rfl hl.1 (Nat.le_of_ble_eq_true rfl) rfl dX9_paces_2 ⟨Nat.zero_le _, Nat.zero_le _⟩ (fun r f1 H locs er hP hD hS => ?_)
  have hP : va_P (dC, dI) vwCl [((g 0), .inr (9, oM g 0 0 0 0 0 0 (-1))), ((g 1), .inl ((a 1), 68, .inl (fun _ => 0)))] H := hP
  have hD : va_D A [((g 0), .inr (9, oM g 0 0 0 0 0 0 (-1))), ((g 1), .inl ((a 1), 68, .inl (fun _ => 0)))] := hD
  have er : r = 0 := er
  subst er
  refine lv_if_eq (tgt := 20) hx hb dX9_paces_5 (by decide) (fun c2 => ?_) (fun c2 => ?_)
  · refine lv_bipush (v := (-2)) hx hb dX9_paces_20 (by decide) ?_
    exact e_i hx hb hr hlocks hP hD hS (fun _ => 0) [] rfl rfl rfl dX9_paces_22
  · exact absurd c2 (by decide)
set_option maxRecDepth 100000 in
set_option maxHeartbeats 4000000 in
theorem k_X8_undo (l : Launch) (dC : Nat → ClassId) (dI : Nat → Nat → Nat) (g : Nat → Nat) (a : Nat → ClassId)   : MI l dC dI yX8_undo (Cond.code yX8_undo cX8_undo 2 (some .int)) ({ frames := 1, cells := 0, slots := 0, locals := 20 }) [.ref (g 0)] [((a 17), .int)] [((g 0), .inr (8, [.ref (g 1), .ref (g 2), .ref (g 4), .ref (g 16), .ref (g 64), .ref (g 65), .ref (g 66), .ref (g 70), .ref (g 75), .ref (g 87), .ref (g 94), .int 0, .int 0, .int 0])), ((g 16), .inr (1, [.ref (g 17), .ref (g 18), .ref (g 19), .ref (g 20), .ref (g 21), .ref (g 22), .ref (g 23), .ref (g 24), .ref (g 25), .ref (g 26), .ref (g 27)])), ((g 17), .inl ((a 17), 11, .inl (fun _ => 0)))] (fun r : Int32 => r = (-2)) (fun f => []) := by
  refine m_of (Qc := fun A => QI dC dI A (fun r : Int32 => r = (-2)) (fun f => [])) (lv := [(0, .ref (g 0))]) (by decide) (Nat.le_of_ble_eq_true rfl) rfl ?_
  intro p e s m below meth c A ls hx hb hr hml hT hown hlocks hname hP hK hD hS hA hl
  have hown : s.vm.findClass RX8 = some m.cls := hown
  refine lv_aload_n hx hb dX8_undo_0 rfl (lv_at hl 0 rfl) ?_
  refine va_get (D := (dC, dI)) (ci := 8) (v := .ref (g 16)) (C := RX8) (T := TX8) (N := 14) hx hb hT inT8 hown hK hP 0 rfl rfl 3 (by decide) (hT _ mw_45) (fun _ h9 => h9) rfl dX8_undo_1 ?_
  refine c_Vi (C := RX1) (As := []) (rest := []) (wr := [((g 0), .inr (8, [.ref (g 1), .ref (g 2), .ref (g 4), .ref (g 16), .ref (g 64), .ref (g 65), .ref (g 66), .ref (g 70), .ref (g 75), .ref (g 87), .ref (g 94), .int 0, .int 0, .int 0]))]) (n := 0) ⟨hx, hb, hml, hown, hT⟩ (k_X1_stands l dC dI g a ) hK hP hD hS hA [0] rfl [1, 2] [0] rfl rfl rfl rfl (by decide) rfl rfl mw_201 mw_202 mw_203 mw_27 mw_204 (by decide +kernel) ⟨Nat.le_of_ble_eq_true rfl, Nat.le_of_ble_eq_true rfl⟩ ⟨rfl, rfl⟩ rfl hl.1 (Nat.le_of_ble_eq_true rfl) rfl dX8_undo_4 ⟨Nat.zero_le _, Nat.zero_le _⟩ (fun r f1 H locs er hP hD hS => ?_)
  have hP : va_P (dC, dI) vwCl [((g 0), .inr (8, [.ref (g 1), .ref (g 2), .ref (g 4), .ref (g 16), .ref (g 64), .ref (g 65), .ref (g 66), .ref (g 70), .ref (g 75), .ref (g 87), .ref (g 94), .int 0, .int 0, .int 0])), ((g 16), .inr (1, [.ref (g 17), .ref (g 18), .ref (g 19), .ref (g 20), .ref (g 21), .ref (g 22), .ref (g 23), .ref (g 24), .ref (g 25), .ref (g 26), .ref (g 27)])), ((g 17), .inl ((a 17), 11, .inl (fun _ => 0)))] H := hP
  have hD : va_D A [((g 0), .inr (8, [.ref (g 1), .ref (g 2), .ref (g 4), .ref (g 16), .ref (g 64), .ref (g 65), .ref (g 66), .ref (g 70), .ref (g 75), .ref (g 87), .ref (g 94), .int 0, .int 0, .int 0])), ((g 16), .inr (1, [.ref (g 17), .ref (g 18), .ref (g 19), .ref (g 20), .ref (g 21), .ref (g 22), .ref (g 23), .ref (g 24), .ref (g 25), .ref (g 26), .ref (g 27)])), ((g 17), .inl ((a 17), 11, .inl (fun _ => 0)))] := hD
  have er : r = 0 := er
  subst er
  refine lv_if_ne (tgt := 13) hx hb dX8_undo_7 (by decide) (fun c2 => ?_) (fun c2 => ?_)
  · exact absurd c2 (by decide)
  · refine lv_bipush (v := (-2)) hx hb dX8_undo_10 (by decide) ?_
    exact e_i hx hb hr hlocks hP hD hS (fun _ => 0) [] rfl rfl rfl dX8_undo_12
set_option maxRecDepth 100000 in
set_option maxHeartbeats 4000000 in
theorem k_X9_undo (l : Launch) (dC : Nat → ClassId) (dI : Nat → Nat → Nat) (g : Nat → Nat) (a : Nat → ClassId)   : MI l dC dI yX9_undo (Cond.code yX9_undo cX9_undo 1 (some .int)) ({ frames := 1, cells := 0, slots := 0, locals := 20 }) [.ref (g 0)] [((a 1), .int)] [((g 0), .inr (9, oM g 0 0 0 0 0 0 (-1))), ((g 1), .inl ((a 1), 68, .inl (fun _ => 0)))] (fun r : Int32 => r = (-2)) (fun f => []) := by
  refine m_of (Qc := fun A => QI dC dI A (fun r : Int32 => r = (-2)) (fun f => [])) (lv := [(0, .ref (g 0))]) (by decide) (Nat.le_of_ble_eq_true rfl) rfl ?_
  intro p e s m below meth c A ls hx hb hr hml hT hown hlocks hname hP hK hD hS hA hl
  have hown : s.vm.findClass RX9 = some m.cls := hown
  refine lv_aload_n hx hb dX9_undo_0 rfl (lv_at hl 0 rfl) ?_
  refine c_Vi (C := RX9) (As := []) (rest := []) (wr := []) (n := 0) ⟨hx, hb, hml, hown, hT⟩ (k_X9_isBrigade l dC dI g a ) hK hP hD hS hA [0] rfl [0, 1] [] rfl rfl rfl rfl (by decide) rfl rfl mw_126 mw_127 mw_128 mw_19 mw_129 (by decide +kernel) ⟨Nat.le_of_ble_eq_true rfl, Nat.le_of_ble_eq_true rfl⟩ ⟨rfl, rfl⟩ rfl hl.1 (Nat.le_of_ble_eq_true rfl) rfl dX9_undo_1 ⟨Nat.zero_le _, Nat.zero_le _⟩ (fun r f1 H locs er hP hD hS => ?_)
  have hP : va_P (dC, dI) vwCl [((g 0), .inr (9, oM g 0 0 0 0 0 0 (-1))), ((g 1), .inl ((a 1), 68, .inl (fun _ => 0)))] H := hP
  have hD : va_D A [((g 0), .inr (9, oM g 0 0 0 0 0 0 (-1))), ((g 1), .inl ((a 1), 68, .inl (fun _ => 0)))] := hD
  have er : r = 0 := er
  subst er
  refine lv_if_ne (tgt := 10) hx hb dX9_undo_4 (by decide) (fun c2 => ?_) (fun c2 => ?_)
  · exact absurd c2 (by decide)
  · refine lv_bipush (v := (-2)) hx hb dX9_undo_7 (by decide) ?_
    exact e_i hx hb hr hlocks hP hD hS (fun _ => 0) [] rfl rfl rfl dX9_undo_9
set_option maxRecDepth 100000 in
set_option maxHeartbeats 4000000 in
theorem k_X8_anew (l : Launch) (dC : Nat → ClassId) (dI : Nat → Nat → Nat) (g : Nat → Nat) (a : Nat → ClassId)   : MI l dC dI yX8_anew (Cond.code yX8_anew cX8_anew 2 (some .int)) ({ frames := 1, cells := 0, slots := 0, locals := 20 }) [.ref (g 0)] [((a 17), .int)] [((g 0), .inr (8, [.ref (g 1), .ref (g 2), .ref (g 4), .ref (g 16), .ref (g 64), .ref (g 65), .ref (g 66), .ref (g 70), .ref (g 75), .ref (g 87), .ref (g 94), .int 0, .int 0, .int 0])), ((g 16), .inr (1, [.ref (g 17), .ref (g 18), .ref (g 19), .ref (g 20), .ref (g 21), .ref (g 22), .ref (g 23), .ref (g 24), .ref (g 25), .ref (g 26), .ref (g 27)])), ((g 17), .inl ((a 17), 11, .inl (fun _ => 0)))] (fun r : Int32 => r = (-2)) (fun f => []) := by
  refine m_of (Qc := fun A => QI dC dI A (fun r : Int32 => r = (-2)) (fun f => [])) (lv := [(0, .ref (g 0))]) (by decide) (Nat.le_of_ble_eq_true rfl) rfl ?_
  intro p e s m below meth c A ls hx hb hr hml hT hown hlocks hname hP hK hD hS hA hl
  have hown : s.vm.findClass RX8 = some m.cls := hown
  refine lv_aload_n hx hb dX8_anew_0 rfl (lv_at hl 0 rfl) ?_
  refine va_get (D := (dC, dI)) (ci := 8) (v := .ref (g 16)) (C := RX8) (T := TX8) (N := 14) hx hb hT inT8 hown hK hP 0 rfl rfl 3 (by decide) (hT _ mw_45) (fun _ h9 => h9) rfl dX8_anew_1 ?_
  refine c_Vi (C := RX1) (As := []) (rest := []) (wr := [((g 0), .inr (8, [.ref (g 1), .ref (g 2), .ref (g 4), .ref (g 16), .ref (g 64), .ref (g 65), .ref (g 66), .ref (g 70), .ref (g 75), .ref (g 87), .ref (g 94), .int 0, .int 0, .int 0]))]) (n := 0) ⟨hx, hb, hml, hown, hT⟩ (k_X1_stands l dC dI g a ) hK hP hD hS hA [0] rfl [1, 2] [0] rfl rfl rfl rfl (by decide) rfl rfl mw_201 mw_202 mw_203 mw_27 mw_204 (by decide +kernel) ⟨Nat.le_of_ble_eq_true rfl, Nat.le_of_ble_eq_true rfl⟩ ⟨rfl, rfl⟩ rfl hl.1 (Nat.le_of_ble_eq_true rfl) rfl dX8_anew_4 ⟨Nat.zero_le _, Nat.zero_le _⟩ (fun r f1 H locs er hP hD hS => ?_)
  have hP : va_P (dC, dI) vwCl [((g 0), .inr (8, [.ref (g 1), .ref (g 2), .ref (g 4), .ref (g 16), .ref (g 64), .ref (g 65), .ref (g 66), .ref (g 70), .ref (g 75), .ref (g 87), .ref (g 94), .int 0, .int 0, .int 0])), ((g 16), .inr (1, [.ref (g 17), .ref (g 18), .ref (g 19), .ref (g 20), .ref (g 21), .ref (g 22), .ref (g 23), .ref (g 24), .ref (g 25), .ref (g 26), .ref (g 27)])), ((g 17), .inl ((a 17), 11, .inl (fun _ => 0)))] H := hP
  have hD : va_D A [((g 0), .inr (8, [.ref (g 1), .ref (g 2), .ref (g 4), .ref (g 16), .ref (g 64), .ref (g 65), .ref (g 66), .ref (g 70), .ref (g 75), .ref (g 87), .ref (g 94), .int 0, .int 0, .int 0])), ((g 16), .inr (1, [.ref (g 17), .ref (g 18), .ref (g 19), .ref (g 20), .ref (g 21), .ref (g 22), .ref (g 23), .ref (g 24), .ref (g 25), .ref (g 26), .ref (g 27)])), ((g 17), .inl ((a 17), 11, .inl (fun _ => 0)))] := hD
  have er : r = 0 := er
  subst er
  refine lv_if_ne (tgt := 13) hx hb dX8_anew_7 (by decide) (fun c2 => ?_) (fun c2 => ?_)
  · exact absurd c2 (by decide)
  · refine lv_bipush (v := (-2)) hx hb dX8_anew_10 (by decide) ?_
    exact e_i hx hb hr hlocks hP hD hS (fun _ => 0) [] rfl rfl rfl dX8_anew_12
set_option maxRecDepth 100000 in
set_option maxHeartbeats 4000000 in
theorem k_X9_anew (l : Launch) (dC : Nat → ClassId) (dI : Nat → Nat → Nat) (g : Nat → Nat) (a : Nat → ClassId)   : MI l dC dI yX9_anew (Cond.code yX9_anew cX9_anew 2 (some .int)) ({ frames := 1, cells := 0, slots := 0, locals := 20 }) [.ref (g 0)] [((a 1), .int)] [((g 0), .inr (9, oM g 0 0 0 0 0 0 (-1))), ((g 1), .inl ((a 1), 68, .inl (fun _ => 0)))] (fun r : Int32 => r = (-2)) (fun f => []) := by
  refine m_of (Qc := fun A => QI dC dI A (fun r : Int32 => r = (-2)) (fun f => [])) (lv := [(0, .ref (g 0))]) (by decide) (Nat.le_of_ble_eq_true rfl) rfl ?_
  intro p e s m below meth c A ls hx hb hr hml hT hown hlocks hname hP hK hD hS hA hl
  have hown : s.vm.findClass RX9 = some m.cls := hown
  refine lv_aload_n hx hb dX9_anew_0 rfl (lv_at hl 0 rfl) ?_
  refine c_Vi (C := RX9) (As := []) (rest := []) (wr := []) (n := 0) ⟨hx, hb, hml, hown, hT⟩ (k_X9_isBrigade l dC dI g a ) hK hP hD hS hA [0] rfl [0, 1] [] rfl rfl rfl rfl (by decide) rfl rfl mw_126 mw_127 mw_128 mw_19 mw_129 (by decide +kernel) ⟨Nat.le_of_ble_eq_true rfl, Nat.le_of_ble_eq_true rfl⟩ ⟨rfl, rfl⟩ rfl hl.1 (Nat.le_of_ble_eq_true rfl) rfl dX9_anew_1 ⟨Nat.zero_le _, Nat.zero_le _⟩ (fun r f1 H locs er hP hD hS => ?_)
  have hP : va_P (dC, dI) vwCl [((g 0), .inr (9, oM g 0 0 0 0 0 0 (-1))), ((g 1), .inl ((a 1), 68, .inl (fun _ => 0)))] H := hP
  have hD : va_D A [((g 0), .inr (9, oM g 0 0 0 0 0 0 (-1))), ((g 1), .inl ((a 1), 68, .inl (fun _ => 0)))] := hD
  have er : r = 0 := er
  subst er
  refine lv_if_ne (tgt := 10) hx hb dX9_anew_4 (by decide) (fun c2 => ?_) (fun c2 => ?_)
  · exact absurd c2 (by decide)
  · refine lv_bipush (v := (-2)) hx hb dX9_anew_7 (by decide) ?_
    exact e_i hx hb hr hlocks hP hD hS (fun _ => 0) [] rfl rfl rfl dX9_anew_9
set_option maxRecDepth 100000 in
set_option maxHeartbeats 4000000 in
theorem k_X8_drawn (l : Launch) (dC : Nat → ClassId) (dI : Nat → Nat → Nat) (g : Nat → Nat) (a : Nat → ClassId) (p0 : Int32) (p1 : Int32)  : MI l dC dI yX8_drawn (Cond.code yX8_drawn cX8_drawn 7 (some .int)) ({ frames := 1, cells := 0, slots := 0, locals := 20 }) [.ref (g 0), .int p0, .int p1] [((a 17), .int)] [((g 0), .inr (8, [.ref (g 1), .ref (g 2), .ref (g 4), .ref (g 16), .ref (g 64), .ref (g 65), .ref (g 66), .ref (g 70), .ref (g 75), .ref (g 87), .ref (g 94), .int 0, .int 0, .int 0])), ((g 16), .inr (1, [.ref (g 17), .ref (g 18), .ref (g 19), .ref (g 20), .ref (g 21), .ref (g 22), .ref (g 23), .ref (g 24), .ref (g 25), .ref (g 26), .ref (g 27)])), ((g 17), .inl ((a 17), 11, .inl (fun _ => 0)))] (fun r : Int32 => r = (-2)) (fun f => []) := by
  refine m_of (Qc := fun A => QI dC dI A (fun r : Int32 => r = (-2)) (fun f => [])) (lv := [(0, .ref (g 0)), (1, .int p0), (2, .int p1)]) (by decide) (Nat.le_of_ble_eq_true rfl) rfl ?_
  intro p e s m below meth c A ls hx hb hr hml hT hown hlocks hname hP hK hD hS hA hl
  have hown : s.vm.findClass RX8 = some m.cls := hown
  refine lv_aload_n hx hb dX8_drawn_0 rfl (lv_at hl 0 rfl) ?_
  refine va_get (D := (dC, dI)) (ci := 8) (v := .ref (g 16)) (C := RX8) (T := TX8) (N := 14) hx hb hT inT8 hown hK hP 0 rfl rfl 3 (by decide) (hT _ mw_45) (fun _ h9 => h9) rfl dX8_drawn_1 ?_
  refine c_Vi (C := RX1) (As := []) (rest := []) (wr := [((g 0), .inr (8, [.ref (g 1), .ref (g 2), .ref (g 4), .ref (g 16), .ref (g 64), .ref (g 65), .ref (g 66), .ref (g 70), .ref (g 75), .ref (g 87), .ref (g 94), .int 0, .int 0, .int 0]))]) (n := 0) ⟨hx, hb, hml, hown, hT⟩ (k_X1_stands l dC dI g a ) hK hP hD hS hA [0] rfl [1, 2] [0] rfl rfl rfl rfl (by decide) rfl rfl mw_201 mw_202 mw_203 mw_27 mw_204 (by decide +kernel) ⟨Nat.le_of_ble_eq_true rfl, Nat.le_of_ble_eq_true rfl⟩ ⟨rfl, rfl⟩ rfl hl.1 (Nat.le_of_ble_eq_true rfl) rfl dX8_drawn_4 ⟨Nat.zero_le _, Nat.zero_le _⟩ (fun r f1 H locs er hP hD hS => ?_)
  have hP : va_P (dC, dI) vwCl [((g 0), .inr (8, [.ref (g 1), .ref (g 2), .ref (g 4), .ref (g 16), .ref (g 64), .ref (g 65), .ref (g 66), .ref (g 70), .ref (g 75), .ref (g 87), .ref (g 94), .int 0, .int 0, .int 0])), ((g 16), .inr (1, [.ref (g 17), .ref (g 18), .ref (g 19), .ref (g 20), .ref (g 21), .ref (g 22), .ref (g 23), .ref (g 24), .ref (g 25), .ref (g 26), .ref (g 27)])), ((g 17), .inl ((a 17), 11, .inl (fun _ => 0)))] H := hP
  have hD : va_D A [((g 0), .inr (8, [.ref (g 1), .ref (g 2), .ref (g 4), .ref (g 16), .ref (g 64), .ref (g 65), .ref (g 66), .ref (g 70), .ref (g 75), .ref (g 87), .ref (g 94), .int 0, .int 0, .int 0])), ((g 16), .inr (1, [.ref (g 17), .ref (g 18), .ref (g 19), .ref (g 20), .ref (g 21), .ref (g 22), .ref (g 23), .ref (g 24), .ref (g 25), .ref (g 26), .ref (g 27)])), ((g 17), .inl ((a 17), 11, .inl (fun _ => 0)))] := hD
  have er : r = 0 := er
  subst er
  refine lv_if_eq (tgt := 26) hx hb dX8_drawn_7 (by decide) (fun c2 => ?_) (fun c2 => ?_)
  · refine lv_bipush (v := (-2)) hx hb dX8_drawn_26 (by decide) ?_
    exact e_i hx hb hr hlocks hP hD hS (fun _ => 0) [] rfl rfl rfl dX8_drawn_28
  · exact absurd c2 (by decide)
set_option maxRecDepth 100000 in
set_option maxHeartbeats 4000000 in
theorem k_X9_drawn (l : Launch) (dC : Nat → ClassId) (dI : Nat → Nat → Nat) (g : Nat → Nat) (a : Nat → ClassId) (p0 : Int32) (p1 : Int32)  : MI l dC dI yX9_drawn (Cond.code yX9_drawn cX9_drawn 4 (some .int)) ({ frames := 1, cells := 0, slots := 0, locals := 20 }) [.ref (g 0), .int p0, .int p1] [((a 1), .int)] [((g 0), .inr (9, oM g 0 0 0 0 0 0 (-1))), ((g 1), .inl ((a 1), 68, .inl (fun _ => 0)))] (fun r : Int32 => r = (-2)) (fun f => []) := by
  refine m_of (Qc := fun A => QI dC dI A (fun r : Int32 => r = (-2)) (fun f => [])) (lv := [(0, .ref (g 0)), (1, .int p0), (2, .int p1)]) (by decide) (Nat.le_of_ble_eq_true rfl) rfl ?_
  intro p e s m below meth c A ls hx hb hr hml hT hown hlocks hname hP hK hD hS hA hl
  have hown : s.vm.findClass RX9 = some m.cls := hown
  refine lv_aload_n hx hb dX9_drawn_0 rfl (lv_at hl 0 rfl) ?_
  refine c_Vi (C := RX9) (As := []) (rest := []) (wr := []) (n := 0) ⟨hx, hb, hml, hown, hT⟩ (k_X9_isBrigade l dC dI g a ) hK hP hD hS hA [0] rfl [0, 1] [] rfl rfl rfl rfl (by decide) rfl rfl mw_126 mw_127 mw_128 mw_19 mw_129 (by decide +kernel) ⟨Nat.le_of_ble_eq_true rfl, Nat.le_of_ble_eq_true rfl⟩ ⟨rfl, rfl⟩ rfl hl.1 (Nat.le_of_ble_eq_true rfl) rfl dX9_drawn_1 ⟨Nat.zero_le _, Nat.zero_le _⟩ (fun r f1 H locs er hP hD hS => ?_)
  have hP : va_P (dC, dI) vwCl [((g 0), .inr (9, oM g 0 0 0 0 0 0 (-1))), ((g 1), .inl ((a 1), 68, .inl (fun _ => 0)))] H := hP
  have hD : va_D A [((g 0), .inr (9, oM g 0 0 0 0 0 0 (-1))), ((g 1), .inl ((a 1), 68, .inl (fun _ => 0)))] := hD
  have er : r = 0 := er
  subst er
  refine lv_if_eq (tgt := 26) hx hb dX9_drawn_4 (by decide) (fun c2 => ?_) (fun c2 => ?_)
  · refine lv_bipush (v := (-2)) hx hb dX9_drawn_26 (by decide) ?_
    exact e_i hx hb hr hlocks hP hD hS (fun _ => 0) [] rfl rfl rfl dX9_drawn_28
  · exact absurd c2 (by decide)
set_option maxRecDepth 100000 in
set_option maxHeartbeats 4000000 in
theorem k_X8_luck (l : Launch) (dC : Nat → ClassId) (dI : Nat → Nat → Nat) (g : Nat → Nat) (a : Nat → ClassId) (p0 : Int32) (p1 : Int32)  : MI l dC dI yX8_luck (Cond.code yX8_luck cX8_luck 7 (some .int)) ({ frames := 1, cells := 0, slots := 0, locals := 20 }) [.ref (g 0), .int p0, .int p1] [((a 17), .int)] [((g 0), .inr (8, [.ref (g 1), .ref (g 2), .ref (g 4), .ref (g 16), .ref (g 64), .ref (g 65), .ref (g 66), .ref (g 70), .ref (g 75), .ref (g 87), .ref (g 94), .int 0, .int 0, .int 0])), ((g 16), .inr (1, [.ref (g 17), .ref (g 18), .ref (g 19), .ref (g 20), .ref (g 21), .ref (g 22), .ref (g 23), .ref (g 24), .ref (g 25), .ref (g 26), .ref (g 27)])), ((g 17), .inl ((a 17), 11, .inl (fun _ => 0)))] (fun r : Int32 => r = (-2)) (fun f => []) := by
  refine m_of (Qc := fun A => QI dC dI A (fun r : Int32 => r = (-2)) (fun f => [])) (lv := [(0, .ref (g 0)), (1, .int p0), (2, .int p1)]) (by decide) (Nat.le_of_ble_eq_true rfl) rfl ?_
  intro p e s m below meth c A ls hx hb hr hml hT hown hlocks hname hP hK hD hS hA hl
  have hown : s.vm.findClass RX8 = some m.cls := hown
  refine lv_aload_n hx hb dX8_luck_0 rfl (lv_at hl 0 rfl) ?_
  refine va_get (D := (dC, dI)) (ci := 8) (v := .ref (g 16)) (C := RX8) (T := TX8) (N := 14) hx hb hT inT8 hown hK hP 0 rfl rfl 3 (by decide) (hT _ mw_45) (fun _ h9 => h9) rfl dX8_luck_1 ?_
  refine c_Vi (C := RX1) (As := []) (rest := []) (wr := [((g 0), .inr (8, [.ref (g 1), .ref (g 2), .ref (g 4), .ref (g 16), .ref (g 64), .ref (g 65), .ref (g 66), .ref (g 70), .ref (g 75), .ref (g 87), .ref (g 94), .int 0, .int 0, .int 0]))]) (n := 0) ⟨hx, hb, hml, hown, hT⟩ (k_X1_stands l dC dI g a ) hK hP hD hS hA [0] rfl [1, 2] [0] rfl rfl rfl rfl (by decide) rfl rfl mw_201 mw_202 mw_203 mw_27 mw_204 (by decide +kernel) ⟨Nat.le_of_ble_eq_true rfl, Nat.le_of_ble_eq_true rfl⟩ ⟨rfl, rfl⟩ rfl hl.1 (Nat.le_of_ble_eq_true rfl) rfl dX8_luck_4 ⟨Nat.zero_le _, Nat.zero_le _⟩ (fun r f1 H locs er hP hD hS => ?_)
  have hP : va_P (dC, dI) vwCl [((g 0), .inr (8, [.ref (g 1), .ref (g 2), .ref (g 4), .ref (g 16), .ref (g 64), .ref (g 65), .ref (g 66), .ref (g 70), .ref (g 75), .ref (g 87), .ref (g 94), .int 0, .int 0, .int 0])), ((g 16), .inr (1, [.ref (g 17), .ref (g 18), .ref (g 19), .ref (g 20), .ref (g 21), .ref (g 22), .ref (g 23), .ref (g 24), .ref (g 25), .ref (g 26), .ref (g 27)])), ((g 17), .inl ((a 17), 11, .inl (fun _ => 0)))] H := hP
  have hD : va_D A [((g 0), .inr (8, [.ref (g 1), .ref (g 2), .ref (g 4), .ref (g 16), .ref (g 64), .ref (g 65), .ref (g 66), .ref (g 70), .ref (g 75), .ref (g 87), .ref (g 94), .int 0, .int 0, .int 0])), ((g 16), .inr (1, [.ref (g 17), .ref (g 18), .ref (g 19), .ref (g 20), .ref (g 21), .ref (g 22), .ref (g 23), .ref (g 24), .ref (g 25), .ref (g 26), .ref (g 27)])), ((g 17), .inl ((a 17), 11, .inl (fun _ => 0)))] := hD
  have er : r = 0 := er
  subst er
  refine lv_if_eq (tgt := 28) hx hb dX8_luck_7 (by decide) (fun c2 => ?_) (fun c2 => ?_)
  · refine lv_bipush (v := (-2)) hx hb dX8_luck_28 (by decide) ?_
    exact e_i hx hb hr hlocks hP hD hS (fun _ => 0) [] rfl rfl rfl dX8_luck_30
  · exact absurd c2 (by decide)
set_option maxRecDepth 100000 in
set_option maxHeartbeats 4000000 in
theorem k_X9_luck (l : Launch) (dC : Nat → ClassId) (dI : Nat → Nat → Nat) (g : Nat → Nat) (a : Nat → ClassId) (p0 : Int32) (p1 : Int32)  : MI l dC dI yX9_luck (Cond.code yX9_luck cX9_luck 5 (some .int)) ({ frames := 1, cells := 0, slots := 0, locals := 20 }) [.ref (g 0), .int p0, .int p1] [((a 1), .int)] [((g 0), .inr (9, oM g 0 0 0 0 0 0 (-1))), ((g 1), .inl ((a 1), 68, .inl (fun _ => 0)))] (fun r : Int32 => r = (-2)) (fun f => []) := by
  refine m_of (Qc := fun A => QI dC dI A (fun r : Int32 => r = (-2)) (fun f => [])) (lv := [(0, .ref (g 0)), (1, .int p0), (2, .int p1)]) (by decide) (Nat.le_of_ble_eq_true rfl) rfl ?_
  intro p e s m below meth c A ls hx hb hr hml hT hown hlocks hname hP hK hD hS hA hl
  have hown : s.vm.findClass RX9 = some m.cls := hown
  refine lv_aload_n hx hb dX9_luck_0 rfl (lv_at hl 0 rfl) ?_
  refine c_Vi (C := RX9) (As := []) (rest := []) (wr := []) (n := 0) ⟨hx, hb, hml, hown, hT⟩ (k_X9_isBrigade l dC dI g a ) hK hP hD hS hA [0] rfl [0, 1] [] rfl rfl rfl rfl (by decide) rfl rfl mw_126 mw_127 mw_128 mw_19 mw_129 (by decide +kernel) ⟨Nat.le_of_ble_eq_true rfl, Nat.le_of_ble_eq_true rfl⟩ ⟨rfl, rfl⟩ rfl hl.1 (Nat.le_of_ble_eq_true rfl) rfl dX9_luck_1 ⟨Nat.zero_le _, Nat.zero_le _⟩ (fun r f1 H locs er hP hD hS => ?_)
  have hP : va_P (dC, dI) vwCl [((g 0), .inr (9, oM g 0 0 0 0 0 0 (-1))), ((g 1), .inl ((a 1), 68, .inl (fun _ => 0)))] H := hP
  have hD : va_D A [((g 0), .inr (9, oM g 0 0 0 0 0 0 (-1))), ((g 1), .inl ((a 1), 68, .inl (fun _ => 0)))] := hD
  have er : r = 0 := er
  subst er
  refine lv_if_eq (tgt := 26) hx hb dX9_luck_4 (by decide) (fun c2 => ?_) (fun c2 => ?_)
  · refine lv_bipush (v := (-2)) hx hb dX9_luck_26 (by decide) ?_
    exact e_i hx hb hr hlocks hP hD hS (fun _ => 0) [] rfl rfl rfl dX9_luck_28
  · exact absurd c2 (by decide)
set_option maxRecDepth 100000 in
set_option maxHeartbeats 4000000 in
theorem k_X8_fills (l : Launch) (dC : Nat → ClassId) (dI : Nat → Nat → Nat) (g : Nat → Nat) (a : Nat → ClassId) (p0 : Int32)  : MI l dC dI yX8_fills (Cond.code yX8_fills cX8_fills 3 (some .int)) ({ frames := 1, cells := 0, slots := 0, locals := 20 }) [.ref (g 0), .int p0] [((a 17), .int)] [((g 0), .inr (8, [.ref (g 1), .ref (g 2), .ref (g 4), .ref (g 16), .ref (g 64), .ref (g 65), .ref (g 66), .ref (g 70), .ref (g 75), .ref (g 87), .ref (g 94), .int 0, .int 0, .int 0])), ((g 16), .inr (1, [.ref (g 17), .ref (g 18), .ref (g 19), .ref (g 20), .ref (g 21), .ref (g 22), .ref (g 23), .ref (g 24), .ref (g 25), .ref (g 26), .ref (g 27)])), ((g 17), .inl ((a 17), 11, .inl (fun _ => 0)))] (fun r : Int32 => r = (-2)) (fun f => []) := by
  refine m_of (Qc := fun A => QI dC dI A (fun r : Int32 => r = (-2)) (fun f => [])) (lv := [(0, .ref (g 0)), (1, .int p0)]) (by decide) (Nat.le_of_ble_eq_true rfl) rfl ?_
  intro p e s m below meth c A ls hx hb hr hml hT hown hlocks hname hP hK hD hS hA hl
  have hown : s.vm.findClass RX8 = some m.cls := hown
  refine lv_iload_n hx hb dX8_fills_0 rfl (lv_at hl 1 rfl) ?_
  refine lv_iconst (v := 1) hx hb dX8_fills_1 (by decide) ?_
  refine lv_icmp_lt (tgt := 21) hx hb dX8_fills_2 (by decide) (fun c1 => ?_) (fun c1 => ?_)
  · have c1 := i_lt p0.toInt 1 rfl (by decide) c1
    refine lv_bipush (v := (-2)) hx hb dX8_fills_21 (by decide) ?_
    exact e_i hx hb hr hlocks hP hD hS (fun _ => 0) [] rfl rfl rfl dX8_fills_23
  · have c1 := i_nlt p0.toInt 1 rfl (by decide) c1
    refine lv_iload_n hx hb dX8_fills_5 rfl (lv_at hl 1 rfl) ?_
    refine lv_bipush (v := 30) hx hb dX8_fills_6 (by decide) ?_
    refine lv_icmp_gt (tgt := 21) hx hb dX8_fills_8 (by decide) (fun c2 => ?_) (fun c2 => ?_)
    · have c2 := i_lt 30 p0.toInt (by decide) rfl c2
      refine lv_bipush (v := (-2)) hx hb dX8_fills_21 (by decide) ?_
      exact e_i hx hb hr hlocks hP hD hS (fun _ => 0) [] rfl rfl rfl dX8_fills_23
    · have c2 := i_nlt 30 p0.toInt (by decide) rfl c2
      refine lv_aload_n hx hb dX8_fills_11 rfl (lv_at hl 0 rfl) ?_
      refine va_get (D := (dC, dI)) (ci := 8) (v := .ref (g 16)) (C := RX8) (T := TX8) (N := 14) hx hb hT inT8 hown hK hP 0 rfl rfl 3 (by decide) (hT _ mw_45) (fun _ h9 => h9) rfl dX8_fills_12 ?_
      refine c_Vi (C := RX1) (As := []) (rest := []) (wr := [((g 0), .inr (8, [.ref (g 1), .ref (g 2), .ref (g 4), .ref (g 16), .ref (g 64), .ref (g 65), .ref (g 66), .ref (g 70), .ref (g 75), .ref (g 87), .ref (g 94), .int 0, .int 0, .int 0]))]) (n := 0) ⟨hx, hb, hml, hown, hT⟩ (k_X1_stands l dC dI g a ) hK hP hD hS hA [0] rfl [1, 2] [0] rfl rfl rfl rfl (by decide) rfl rfl mw_201 mw_202 mw_203 mw_27 mw_204 (by decide +kernel) ⟨Nat.le_of_ble_eq_true rfl, Nat.le_of_ble_eq_true rfl⟩ ⟨rfl, rfl⟩ rfl hl.1 (Nat.le_of_ble_eq_true rfl) rfl dX8_fills_15 ⟨Nat.zero_le _, Nat.zero_le _⟩ (fun r f3 H locs er hP hD hS => ?_)
      have hP : va_P (dC, dI) vwCl [((g 0), .inr (8, [.ref (g 1), .ref (g 2), .ref (g 4), .ref (g 16), .ref (g 64), .ref (g 65), .ref (g 66), .ref (g 70), .ref (g 75), .ref (g 87), .ref (g 94), .int 0, .int 0, .int 0])), ((g 16), .inr (1, [.ref (g 17), .ref (g 18), .ref (g 19), .ref (g 20), .ref (g 21), .ref (g 22), .ref (g 23), .ref (g 24), .ref (g 25), .ref (g 26), .ref (g 27)])), ((g 17), .inl ((a 17), 11, .inl (fun _ => 0)))] H := hP
      have hD : va_D A [((g 0), .inr (8, [.ref (g 1), .ref (g 2), .ref (g 4), .ref (g 16), .ref (g 64), .ref (g 65), .ref (g 66), .ref (g 70), .ref (g 75), .ref (g 87), .ref (g 94), .int 0, .int 0, .int 0])), ((g 16), .inr (1, [.ref (g 17), .ref (g 18), .ref (g 19), .ref (g 20), .ref (g 21), .ref (g 22), .ref (g 23), .ref (g 24), .ref (g 25), .ref (g 26), .ref (g 27)])), ((g 17), .inl ((a 17), 11, .inl (fun _ => 0)))] := hD
      have er : r = 0 := er
      subst er
      refine lv_if_ne (tgt := 24) hx hb dX8_fills_18 (by decide) (fun c4 => ?_) (fun c4 => ?_)
      · exact absurd c4 (by decide)
      · refine lv_bipush (v := (-2)) hx hb dX8_fills_21 (by decide) ?_
        exact e_i hx hb hr hlocks hP hD hS (fun _ => 0) [] rfl rfl rfl dX8_fills_23
set_option maxRecDepth 100000 in
set_option maxHeartbeats 4000000 in
theorem k_X9_fills (l : Launch) (dC : Nat → ClassId) (dI : Nat → Nat → Nat) (g : Nat → Nat) (a : Nat → ClassId) (p0 : Int32)  : MI l dC dI yX9_fills (Cond.code yX9_fills cX9_fills 3 (some .int)) ({ frames := 1, cells := 0, slots := 0, locals := 20 }) [.ref (g 0), .int p0] [((a 1), .int)] [((g 0), .inr (9, oM g 0 0 0 0 0 0 (-1))), ((g 1), .inl ((a 1), 68, .inl (fun _ => 0)))] (fun r : Int32 => r = (-2)) (fun f => []) := by
  refine m_of (Qc := fun A => QI dC dI A (fun r : Int32 => r = (-2)) (fun f => [])) (lv := [(0, .ref (g 0)), (1, .int p0)]) (by decide) (Nat.le_of_ble_eq_true rfl) rfl ?_
  intro p e s m below meth c A ls hx hb hr hml hT hown hlocks hname hP hK hD hS hA hl
  have hown : s.vm.findClass RX9 = some m.cls := hown
  refine lv_aload_n hx hb dX9_fills_0 rfl (lv_at hl 0 rfl) ?_
  refine c_Vi (C := RX9) (As := []) (rest := []) (wr := []) (n := 0) ⟨hx, hb, hml, hown, hT⟩ (k_X9_isBrigade l dC dI g a ) hK hP hD hS hA [0] rfl [0, 1] [] rfl rfl rfl rfl (by decide) rfl rfl mw_126 mw_127 mw_128 mw_19 mw_129 (by decide +kernel) ⟨Nat.le_of_ble_eq_true rfl, Nat.le_of_ble_eq_true rfl⟩ ⟨rfl, rfl⟩ rfl hl.1 (Nat.le_of_ble_eq_true rfl) rfl dX9_fills_1 ⟨Nat.zero_le _, Nat.zero_le _⟩ (fun r f1 H locs er hP hD hS => ?_)
  have hP : va_P (dC, dI) vwCl [((g 0), .inr (9, oM g 0 0 0 0 0 0 (-1))), ((g 1), .inl ((a 1), 68, .inl (fun _ => 0)))] H := hP
  have hD : va_D A [((g 0), .inr (9, oM g 0 0 0 0 0 0 (-1))), ((g 1), .inl ((a 1), 68, .inl (fun _ => 0)))] := hD
  have er : r = 0 := er
  subst er
  refine lv_if_eq (tgt := 19) hx hb dX9_fills_4 (by decide) (fun c2 => ?_) (fun c2 => ?_)
  · refine lv_bipush (v := (-2)) hx hb dX9_fills_19 (by decide) ?_
    exact e_i hx hb hr hlocks hP hD hS (fun _ => 0) [] rfl rfl rfl dX9_fills_21
  · exact absurd c2 (by decide)
set_option maxRecDepth 100000 in
set_option maxHeartbeats 4000000 in
theorem k_X5_hasRow (l : Launch) (dC : Nat → ClassId) (dI : Nat → Nat → Nat) (g : Nat → Nat) (a : Nat → ClassId)   : MI l dC dI yX5_hasRow (Cond.code yX5_hasRow cX5_hasRow 2 (some .boolean)) ({ frames := 0, cells := 0, slots := 0, locals := 0 }) [.ref (g 66), .int 0] [((a 68), .int)] [((g 66), .inr (5, [.ref (g 67), .ref (g 68), .ref (g 69)])), ((g 68), .inl ((a 68), 4, .inl nF))] (fun r : Int32 => r = 0) (fun f => [((g 66), .inr (5, [.ref (g 67), .ref (g 68), .ref (g 69)])), ((g 68), .inl ((a 68), 4, .inl nF))]) := by
  refine m_of (Qc := fun A => QI dC dI A (fun r : Int32 => r = 0) (fun f => [((g 66), .inr (5, [.ref (g 67), .ref (g 68), .ref (g 69)])), ((g 68), .inl ((a 68), 4, .inl nF))])) (lv := [(0, .ref (g 66)), (1, .int 0)]) (by decide) (Nat.le_of_ble_eq_true rfl) rfl ?_
  intro p e s m below meth c A ls hx hb hr hml hT hown hlocks hname hP hK hD hS hA hl
  have hown : s.vm.findClass RX5 = some m.cls := hown
  refine lv_aload_n hx hb dX5_hasRow_0 rfl (lv_at hl 0 rfl) ?_
  refine va_get (D := (dC, dI)) (ci := 5) (v := .ref (g 68)) (C := RX5) (T := TX5) (N := 3) hx hb hT inT5 hown hK hP 0 rfl rfl 1 (by decide) (hT _ mw_266) (fun _ h9 => h9) rfl dX5_hasRow_1 ?_
  refine lv_iload_n hx hb dX5_hasRow_4 rfl (lv_at hl 1 rfl) ?_
  refine va_iald hx hb hK hP 1 0 rfl rfl (by unfold vp_in; decide) dX5_hasRow_5 ?_
  refine t_i (-1) rfl ?_
  refine lv_iconst (v := (-1)) hx hb dX5_hasRow_6 (by decide) ?_
  refine lv_icmp_eq (tgt := 14) hx hb dX5_hasRow_7 (by decide) (fun c1 => ?_) (fun c1 => ?_)
  · refine lv_iconst (v := 0) hx hb dX5_hasRow_14 (by decide) ?_
    exact e_z hx hb hr hlocks hP hD hS (fun _ => 0) [0, 1] rfl rfl rfl rfl dX5_hasRow_15
  · exact absurd c1 (by decide)
set_option maxRecDepth 100000 in
set_option maxHeartbeats 4000000 in
theorem k_X5_hasRow_2 (l : Launch) (dC : Nat → ClassId) (dI : Nat → Nat → Nat) (g : Nat → Nat) (a : Nat → ClassId)   : MI l dC dI yX5_hasRow (Cond.code yX5_hasRow cX5_hasRow 2 (some .boolean)) ({ frames := 0, cells := 0, slots := 0, locals := 0 }) [.ref (g 66), .int 1] [((a 68), .int)] [((g 66), .inr (5, [.ref (g 67), .ref (g 68), .ref (g 69)])), ((g 68), .inl ((a 68), 4, .inl nF))] (fun r : Int32 => r = 0) (fun f => [((g 66), .inr (5, [.ref (g 67), .ref (g 68), .ref (g 69)])), ((g 68), .inl ((a 68), 4, .inl nF))]) := by
  refine m_of (Qc := fun A => QI dC dI A (fun r : Int32 => r = 0) (fun f => [((g 66), .inr (5, [.ref (g 67), .ref (g 68), .ref (g 69)])), ((g 68), .inl ((a 68), 4, .inl nF))])) (lv := [(0, .ref (g 66)), (1, .int 1)]) (by decide) (Nat.le_of_ble_eq_true rfl) rfl ?_
  intro p e s m below meth c A ls hx hb hr hml hT hown hlocks hname hP hK hD hS hA hl
  have hown : s.vm.findClass RX5 = some m.cls := hown
  refine lv_aload_n hx hb dX5_hasRow_0 rfl (lv_at hl 0 rfl) ?_
  refine va_get (D := (dC, dI)) (ci := 5) (v := .ref (g 68)) (C := RX5) (T := TX5) (N := 3) hx hb hT inT5 hown hK hP 0 rfl rfl 1 (by decide) (hT _ mw_266) (fun _ h9 => h9) rfl dX5_hasRow_1 ?_
  refine lv_iload_n hx hb dX5_hasRow_4 rfl (lv_at hl 1 rfl) ?_
  refine va_iald hx hb hK hP 1 0 rfl rfl (by unfold vp_in; decide) dX5_hasRow_5 ?_
  refine t_i (-1) rfl ?_
  refine lv_iconst (v := (-1)) hx hb dX5_hasRow_6 (by decide) ?_
  refine lv_icmp_eq (tgt := 14) hx hb dX5_hasRow_7 (by decide) (fun c1 => ?_) (fun c1 => ?_)
  · refine lv_iconst (v := 0) hx hb dX5_hasRow_14 (by decide) ?_
    exact e_z hx hb hr hlocks hP hD hS (fun _ => 0) [0, 1] rfl rfl rfl rfl dX5_hasRow_15
  · exact absurd c1 (by decide)
set_option maxRecDepth 100000 in
set_option maxHeartbeats 4000000 in
theorem k_X5_hasRow_3 (l : Launch) (dC : Nat → ClassId) (dI : Nat → Nat → Nat) (g : Nat → Nat) (a : Nat → ClassId)   : MI l dC dI yX5_hasRow (Cond.code yX5_hasRow cX5_hasRow 2 (some .boolean)) ({ frames := 0, cells := 0, slots := 0, locals := 0 }) [.ref (g 66), .int 2] [((a 68), .int)] [((g 66), .inr (5, [.ref (g 67), .ref (g 68), .ref (g 69)])), ((g 68), .inl ((a 68), 4, .inl nF))] (fun r : Int32 => r = 0) (fun f => [((g 66), .inr (5, [.ref (g 67), .ref (g 68), .ref (g 69)])), ((g 68), .inl ((a 68), 4, .inl nF))]) := by
  refine m_of (Qc := fun A => QI dC dI A (fun r : Int32 => r = 0) (fun f => [((g 66), .inr (5, [.ref (g 67), .ref (g 68), .ref (g 69)])), ((g 68), .inl ((a 68), 4, .inl nF))])) (lv := [(0, .ref (g 66)), (1, .int 2)]) (by decide) (Nat.le_of_ble_eq_true rfl) rfl ?_
  intro p e s m below meth c A ls hx hb hr hml hT hown hlocks hname hP hK hD hS hA hl
  have hown : s.vm.findClass RX5 = some m.cls := hown
  refine lv_aload_n hx hb dX5_hasRow_0 rfl (lv_at hl 0 rfl) ?_
  refine va_get (D := (dC, dI)) (ci := 5) (v := .ref (g 68)) (C := RX5) (T := TX5) (N := 3) hx hb hT inT5 hown hK hP 0 rfl rfl 1 (by decide) (hT _ mw_266) (fun _ h9 => h9) rfl dX5_hasRow_1 ?_
  refine lv_iload_n hx hb dX5_hasRow_4 rfl (lv_at hl 1 rfl) ?_
  refine va_iald hx hb hK hP 1 0 rfl rfl (by unfold vp_in; decide) dX5_hasRow_5 ?_
  refine t_i (-1) rfl ?_
  refine lv_iconst (v := (-1)) hx hb dX5_hasRow_6 (by decide) ?_
  refine lv_icmp_eq (tgt := 14) hx hb dX5_hasRow_7 (by decide) (fun c1 => ?_) (fun c1 => ?_)
  · refine lv_iconst (v := 0) hx hb dX5_hasRow_14 (by decide) ?_
    exact e_z hx hb hr hlocks hP hD hS (fun _ => 0) [0, 1] rfl rfl rfl rfl dX5_hasRow_15
  · exact absurd c1 (by decide)
set_option maxRecDepth 100000 in
set_option maxHeartbeats 4000000 in
theorem k_X5_hasRow_4 (l : Launch) (dC : Nat → ClassId) (dI : Nat → Nat → Nat) (g : Nat → Nat) (a : Nat → ClassId)   : MI l dC dI yX5_hasRow (Cond.code yX5_hasRow cX5_hasRow 2 (some .boolean)) ({ frames := 0, cells := 0, slots := 0, locals := 0 }) [.ref (g 66), .int 3] [((a 68), .int)] [((g 66), .inr (5, [.ref (g 67), .ref (g 68), .ref (g 69)])), ((g 68), .inl ((a 68), 4, .inl nF))] (fun r : Int32 => r = 0) (fun f => [((g 66), .inr (5, [.ref (g 67), .ref (g 68), .ref (g 69)])), ((g 68), .inl ((a 68), 4, .inl nF))]) := by
  refine m_of (Qc := fun A => QI dC dI A (fun r : Int32 => r = 0) (fun f => [((g 66), .inr (5, [.ref (g 67), .ref (g 68), .ref (g 69)])), ((g 68), .inl ((a 68), 4, .inl nF))])) (lv := [(0, .ref (g 66)), (1, .int 3)]) (by decide) (Nat.le_of_ble_eq_true rfl) rfl ?_
  intro p e s m below meth c A ls hx hb hr hml hT hown hlocks hname hP hK hD hS hA hl
  have hown : s.vm.findClass RX5 = some m.cls := hown
  refine lv_aload_n hx hb dX5_hasRow_0 rfl (lv_at hl 0 rfl) ?_
  refine va_get (D := (dC, dI)) (ci := 5) (v := .ref (g 68)) (C := RX5) (T := TX5) (N := 3) hx hb hT inT5 hown hK hP 0 rfl rfl 1 (by decide) (hT _ mw_266) (fun _ h9 => h9) rfl dX5_hasRow_1 ?_
  refine lv_iload_n hx hb dX5_hasRow_4 rfl (lv_at hl 1 rfl) ?_
  refine va_iald hx hb hK hP 1 0 rfl rfl (by unfold vp_in; decide) dX5_hasRow_5 ?_
  refine t_i (-1) rfl ?_
  refine lv_iconst (v := (-1)) hx hb dX5_hasRow_6 (by decide) ?_
  refine lv_icmp_eq (tgt := 14) hx hb dX5_hasRow_7 (by decide) (fun c1 => ?_) (fun c1 => ?_)
  · refine lv_iconst (v := 0) hx hb dX5_hasRow_14 (by decide) ?_
    exact e_z hx hb hr hlocks hP hD hS (fun _ => 0) [0, 1] rfl rfl rfl rfl dX5_hasRow_15
  · exact absurd c1 (by decide)
set_option maxRecDepth 100000 in
set_option maxHeartbeats 4000000 in
theorem k_X5_rowsThere (l : Launch) (dC : Nat → ClassId) (dI : Nat → Nat → Nat) (g : Nat → Nat) (a : Nat → ClassId)   : MI l dC dI yX5_rowsThere (Cond.code yX5_rowsThere cX5_rowsThere 3 (some .int)) ({ frames := 1, cells := 0, slots := 0, locals := 21 }) [.ref (g 66)] [((a 68), .int)] [((g 66), .inr (5, [.ref (g 67), .ref (g 68), .ref (g 69)])), ((g 68), .inl ((a 68), 4, .inl nF))] (fun r : Int32 => r = 0) (fun f => [((g 66), .inr (5, [.ref (g 67), .ref (g 68), .ref (g 69)])), ((g 68), .inl ((a 68), 4, .inl nF))]) := by
  refine m_of (Qc := fun A => QI dC dI A (fun r : Int32 => r = 0) (fun f => [((g 66), .inr (5, [.ref (g 67), .ref (g 68), .ref (g 69)])), ((g 68), .inl ((a 68), 4, .inl nF))])) (lv := [(0, .ref (g 66))]) (by decide) (Nat.le_of_ble_eq_true rfl) rfl ?_
  intro p e s m below meth c A ls hx hb hr hml hT hown hlocks hname hP hK hD hS hA hl
  have hown : s.vm.findClass RX5 = some m.cls := hown
  refine lv_iconst (v := 0) hx hb dX5_rowsThere_0 (by decide) ?_
  refine lv_istore_n (lv' := [(1, .int 0), (0, .ref (g 66))]) hx hb dX5_rowsThere_1 rfl hl (by decide) rfl (fun ls hl => ?_)
  refine lv_iconst (v := 0) hx hb dX5_rowsThere_2 (by decide) ?_
  refine lv_istore_n (lv' := [(2, .int 0), (1, .int 0), (0, .ref (g 66))]) hx hb dX5_rowsThere_3 rfl hl (by decide) rfl (fun ls hl => ?_)
  refine lv_iload_n hx hb dX5_rowsThere_4 rfl (lv_at hl 0 rfl) ?_
  refine lv_iconst (v := 4) hx hb dX5_rowsThere_5 (by decide) ?_
  refine lv_icmp_ge (tgt := 26) hx hb dX5_rowsThere_6 (by decide) (fun c1 => ?_) (fun c1 => ?_)
  · exact absurd c1 (by decide)
  · refine lv_aload_n hx hb dX5_rowsThere_9 rfl (lv_at hl 2 rfl) ?_
    refine lv_iload_n hx hb dX5_rowsThere_10 rfl (lv_at hl 0 rfl) ?_
    refine c_Vi (C := RX5) (As := [.int 0]) (rest := []) (wr := []) (n := 1) ⟨hx, hb, hml, hown, hT⟩ (k_X5_hasRow l dC dI g a ) hK hP hD hS hA [0] rfl [0, 1] [] rfl rfl rfl rfl (by decide) rfl rfl mw_267 mw_268 mw_269 mw_226 mw_270 (by decide +kernel) ⟨Nat.le_of_ble_eq_true rfl, Nat.le_of_ble_eq_true rfl⟩ ⟨rfl, rfl⟩ rfl hl.1 (Nat.le_of_ble_eq_true rfl) rfl dX5_rowsThere_11 ⟨Nat.zero_le _, Nat.zero_le _⟩ (fun r f2 H locs er hP hD hS => ?_)
    have hP : va_P (dC, dI) vwCl [((g 66), .inr (5, [.ref (g 67), .ref (g 68), .ref (g 69)])), ((g 68), .inl ((a 68), 4, .inl nF))] H := hP
    have hD : va_D A [((g 66), .inr (5, [.ref (g 67), .ref (g 68), .ref (g 69)])), ((g 68), .inl ((a 68), 4, .inl nF))] := hD
    have er : r = 0 := er
    subst er
    refine lv_if_eq (tgt := 20) hx hb dX5_rowsThere_14 (by decide) (fun c3 => ?_) (fun c3 => ?_)
    · refine lv_iinc (v := 1) (lv' := [(2, .int 1), (1, .int 0), (0, .ref (g 66))]) hx hb dX5_rowsThere_20 hl (k := 0) rfl (by decide) (by decide) rfl (fun ls hl => ?_)
      refine lv_goto (tgt := 4) hx hb dX5_rowsThere_23 (by decide) ?_
      refine lv_iload_n hx hb dX5_rowsThere_4 rfl (lv_at hl 0 rfl) ?_
      refine lv_iconst (v := 4) hx hb dX5_rowsThere_5 (by decide) ?_
      refine lv_icmp_ge (tgt := 26) hx hb dX5_rowsThere_6 (by decide) (fun c4 => ?_) (fun c4 => ?_)
      · exact absurd c4 (by decide)
      · refine lv_aload_n hx hb dX5_rowsThere_9 rfl (lv_at hl 2 rfl) ?_
        refine lv_iload_n hx hb dX5_rowsThere_10 rfl (lv_at hl 0 rfl) ?_
        refine c_Vi (C := RX5) (As := [.int 1]) (rest := []) (wr := []) (n := 1) ⟨hx, hb, hml, hown, hT⟩ (k_X5_hasRow_2 l dC dI g a ) hK hP hD hS hA [0] rfl [0, 1] [] rfl rfl rfl rfl (by decide) rfl rfl mw_267 mw_268 mw_269 mw_226 mw_270 (by decide +kernel) ⟨Nat.le_of_ble_eq_true rfl, Nat.le_of_ble_eq_true rfl⟩ ⟨rfl, rfl⟩ rfl hl.1 (Nat.le_of_ble_eq_true rfl) rfl dX5_rowsThere_11 ⟨Nat.zero_le _, Nat.zero_le _⟩ (fun r f5 H locs er hP hD hS => ?_)
        have hP : va_P (dC, dI) vwCl [((g 66), .inr (5, [.ref (g 67), .ref (g 68), .ref (g 69)])), ((g 68), .inl ((a 68), 4, .inl nF))] H := hP
        have hD : va_D A [((g 66), .inr (5, [.ref (g 67), .ref (g 68), .ref (g 69)])), ((g 68), .inl ((a 68), 4, .inl nF))] := hD
        have er : r = 0 := er
        subst er
        refine lv_if_eq (tgt := 20) hx hb dX5_rowsThere_14 (by decide) (fun c6 => ?_) (fun c6 => ?_)
        · refine lv_iinc (v := 2) (lv' := [(2, .int 2), (1, .int 0), (0, .ref (g 66))]) hx hb dX5_rowsThere_20 hl (k := 0) rfl (by decide) (by decide) rfl (fun ls hl => ?_)
          refine lv_goto (tgt := 4) hx hb dX5_rowsThere_23 (by decide) ?_
          refine lv_iload_n hx hb dX5_rowsThere_4 rfl (lv_at hl 0 rfl) ?_
          refine lv_iconst (v := 4) hx hb dX5_rowsThere_5 (by decide) ?_
          refine lv_icmp_ge (tgt := 26) hx hb dX5_rowsThere_6 (by decide) (fun c7 => ?_) (fun c7 => ?_)
          · exact absurd c7 (by decide)
          · refine lv_aload_n hx hb dX5_rowsThere_9 rfl (lv_at hl 2 rfl) ?_
            refine lv_iload_n hx hb dX5_rowsThere_10 rfl (lv_at hl 0 rfl) ?_
            refine c_Vi (C := RX5) (As := [.int 2]) (rest := []) (wr := []) (n := 1) ⟨hx, hb, hml, hown, hT⟩ (k_X5_hasRow_3 l dC dI g a ) hK hP hD hS hA [0] rfl [0, 1] [] rfl rfl rfl rfl (by decide) rfl rfl mw_267 mw_268 mw_269 mw_226 mw_270 (by decide +kernel) ⟨Nat.le_of_ble_eq_true rfl, Nat.le_of_ble_eq_true rfl⟩ ⟨rfl, rfl⟩ rfl hl.1 (Nat.le_of_ble_eq_true rfl) rfl dX5_rowsThere_11 ⟨Nat.zero_le _, Nat.zero_le _⟩ (fun r f8 H locs er hP hD hS => ?_)
            have hP : va_P (dC, dI) vwCl [((g 66), .inr (5, [.ref (g 67), .ref (g 68), .ref (g 69)])), ((g 68), .inl ((a 68), 4, .inl nF))] H := hP
            have hD : va_D A [((g 66), .inr (5, [.ref (g 67), .ref (g 68), .ref (g 69)])), ((g 68), .inl ((a 68), 4, .inl nF))] := hD
            have er : r = 0 := er
            subst er
            refine lv_if_eq (tgt := 20) hx hb dX5_rowsThere_14 (by decide) (fun c9 => ?_) (fun c9 => ?_)
            · refine lv_iinc (v := 3) (lv' := [(2, .int 3), (1, .int 0), (0, .ref (g 66))]) hx hb dX5_rowsThere_20 hl (k := 0) rfl (by decide) (by decide) rfl (fun ls hl => ?_)
              refine lv_goto (tgt := 4) hx hb dX5_rowsThere_23 (by decide) ?_
              refine lv_iload_n hx hb dX5_rowsThere_4 rfl (lv_at hl 0 rfl) ?_
              refine lv_iconst (v := 4) hx hb dX5_rowsThere_5 (by decide) ?_
              refine lv_icmp_ge (tgt := 26) hx hb dX5_rowsThere_6 (by decide) (fun c10 => ?_) (fun c10 => ?_)
              · exact absurd c10 (by decide)
              · refine lv_aload_n hx hb dX5_rowsThere_9 rfl (lv_at hl 2 rfl) ?_
                refine lv_iload_n hx hb dX5_rowsThere_10 rfl (lv_at hl 0 rfl) ?_
                refine c_Vi (C := RX5) (As := [.int 3]) (rest := []) (wr := []) (n := 1) ⟨hx, hb, hml, hown, hT⟩ (k_X5_hasRow_4 l dC dI g a ) hK hP hD hS hA [0] rfl [0, 1] [] rfl rfl rfl rfl (by decide) rfl rfl mw_267 mw_268 mw_269 mw_226 mw_270 (by decide +kernel) ⟨Nat.le_of_ble_eq_true rfl, Nat.le_of_ble_eq_true rfl⟩ ⟨rfl, rfl⟩ rfl hl.1 (Nat.le_of_ble_eq_true rfl) rfl dX5_rowsThere_11 ⟨Nat.zero_le _, Nat.zero_le _⟩ (fun r f11 H locs er hP hD hS => ?_)
                have hP : va_P (dC, dI) vwCl [((g 66), .inr (5, [.ref (g 67), .ref (g 68), .ref (g 69)])), ((g 68), .inl ((a 68), 4, .inl nF))] H := hP
                have hD : va_D A [((g 66), .inr (5, [.ref (g 67), .ref (g 68), .ref (g 69)])), ((g 68), .inl ((a 68), 4, .inl nF))] := hD
                have er : r = 0 := er
                subst er
                refine lv_if_eq (tgt := 20) hx hb dX5_rowsThere_14 (by decide) (fun c12 => ?_) (fun c12 => ?_)
                · refine lv_iinc (v := 4) (lv' := [(2, .int 4), (1, .int 0), (0, .ref (g 66))]) hx hb dX5_rowsThere_20 hl (k := 0) rfl (by decide) (by decide) rfl (fun ls hl => ?_)
                  refine lv_goto (tgt := 4) hx hb dX5_rowsThere_23 (by decide) ?_
                  refine lv_iload_n hx hb dX5_rowsThere_4 rfl (lv_at hl 0 rfl) ?_
                  refine lv_iconst (v := 4) hx hb dX5_rowsThere_5 (by decide) ?_
                  refine lv_icmp_ge (tgt := 26) hx hb dX5_rowsThere_6 (by decide) (fun c13 => ?_) (fun c13 => ?_)
                  · refine lv_iload_n hx hb dX5_rowsThere_26 rfl (lv_at hl 1 rfl) ?_
                    exact e_i hx hb hr hlocks hP hD hS (fun _ => 0) [0, 1] rfl rfl rfl dX5_rowsThere_27
                  · exact absurd c13 (by decide)
                · exact absurd c12 (by decide)
            · exact absurd c9 (by decide)
        · exact absurd c6 (by decide)
    · exact absurd c3 (by decide)
set_option maxRecDepth 100000 in
set_option maxHeartbeats 4000000 in
theorem k_X8_count (l : Launch) (dC : Nat → ClassId) (dI : Nat → Nat → Nat) (g : Nat → Nat) (a : Nat → ClassId) (p0 : Int32)  : MI l dC dI yX8_count (Cond.code yX8_count cX8_count 2 (some .int)) ({ frames := 2, cells := 0, slots := 0, locals := 43 }) [.ref (g 0), .int p0] [((a 68), .int), ((a 17), .int)] [((g 0), .inr (8, [.ref (g 1), .ref (g 2), .ref (g 4), .ref (g 16), .ref (g 64), .ref (g 65), .ref (g 66), .ref (g 70), .ref (g 75), .ref (g 87), .ref (g 94), .int 0, .int 0, .int 0])), ((g 66), .inr (5, [.ref (g 67), .ref (g 68), .ref (g 69)])), ((g 68), .inl ((a 68), 4, .inl nF)), ((g 2), .inr (7, [.ref (g 3), .int 0])), ((g 16), .inr (1, [.ref (g 17), .ref (g 18), .ref (g 19), .ref (g 20), .ref (g 21), .ref (g 22), .ref (g 23), .ref (g 24), .ref (g 25), .ref (g 26), .ref (g 27)])), ((g 17), .inl ((a 17), 11, .inl (fun _ => 0)))] (fun r : Int32 => r = s_count p0.toInt) (fun f => []) := by
  refine m_of (Qc := fun A => QI dC dI A (fun r : Int32 => r = s_count p0.toInt) (fun f => [])) (lv := [(0, .ref (g 0)), (1, .int p0)]) (by decide) (Nat.le_of_ble_eq_true rfl) rfl ?_
  intro p e s m below meth c A ls hx hb hr hml hT hown hlocks hname hP hK hD hS hA hl
  have hown : s.vm.findClass RX8 = some m.cls := hown
  refine lv_iload_n hx hb dX8_count_0 rfl (lv_at hl 1 rfl) ?_
  refine lv_if_lt (tgt := 20) hx hb dX8_count_1 (by decide) (fun c1 => ?_) (fun c1 => ?_)
  · have c1 := i_lt p0.toInt 0 rfl (by decide) c1
    refine lv_iload_n hx hb dX8_count_20 rfl (lv_at hl 1 rfl) ?_
    refine lv_bipush (v := 11) hx hb dX8_count_21 (by decide) ?_
    refine lv_icmp_ne (tgt := 34) hx hb dX8_count_23 (by decide) (fun c2 => ?_) (fun c2 => ?_)
    · have c2 := i_neq p0.toInt 11 rfl (by decide) c2
      refine lv_iload_n hx hb dX8_count_34 rfl (lv_at hl 1 rfl) ?_
      refine lv_bipush (v := 12) hx hb dX8_count_35 (by decide) ?_
      refine lv_icmp_ne (tgt := 50) hx hb dX8_count_37 (by decide) (fun c3 => ?_) (fun c3 => ?_)
      · have c3 := i_neq p0.toInt 12 rfl (by decide) c3
        refine lv_iconst (v := (-1)) hx hb dX8_count_50 (by decide) ?_
        exact e_i hx hb hr hlocks hP hD hS (fun _ => 0) [] rfl rfl (by unfold s_count; (repeat' split) <;> first | rfl | omega) dX8_count_51
      · have c3 := i_eq p0.toInt 12 rfl (by decide) c3
        omega
    · have c2 := i_eq p0.toInt 11 rfl (by decide) c2
      omega
  · have c1 := i_nlt p0.toInt 0 rfl (by decide) c1
    refine lv_iload_n hx hb dX8_count_4 rfl (lv_at hl 1 rfl) ?_
    refine lv_bipush (v := 11) hx hb dX8_count_5 (by decide) ?_
    refine lv_icmp_ge (tgt := 20) hx hb dX8_count_7 (by decide) (fun c4 => ?_) (fun c4 => ?_)
    · have c4 := i_le 11 p0.toInt (by decide) rfl c4
      refine lv_iload_n hx hb dX8_count_20 rfl (lv_at hl 1 rfl) ?_
      refine lv_bipush (v := 11) hx hb dX8_count_21 (by decide) ?_
      refine lv_icmp_ne (tgt := 34) hx hb dX8_count_23 (by decide) (fun c5 => ?_) (fun c5 => ?_)
      · have c5 := i_neq p0.toInt 11 rfl (by decide) c5
        refine lv_iload_n hx hb dX8_count_34 rfl (lv_at hl 1 rfl) ?_
        refine lv_bipush (v := 12) hx hb dX8_count_35 (by decide) ?_
        refine lv_icmp_ne (tgt := 50) hx hb dX8_count_37 (by decide) (fun c6 => ?_) (fun c6 => ?_)
        · have c6 := i_neq p0.toInt 12 rfl (by decide) c6
          refine lv_iconst (v := (-1)) hx hb dX8_count_50 (by decide) ?_
          exact e_i hx hb hr hlocks hP hD hS (fun _ => 0) [] rfl rfl (by unfold s_count; (repeat' split) <;> first | rfl | omega) dX8_count_51
        · have c6 := i_eq p0.toInt 12 rfl (by decide) c6
          refine lv_aload_n hx hb dX8_count_40 rfl (lv_at hl 0 rfl) ?_
          refine va_get (D := (dC, dI)) (ci := 8) (v := .ref (g 66)) (C := RX8) (T := TX8) (N := 14) hx hb hT inT8 hown hK hP 0 rfl rfl 6 (by decide) (hT _ mw_222) (fun _ h9 => h9) rfl dX8_count_41 ?_
          refine c_Vi (C := RX5) (As := []) (rest := []) (wr := [((g 0), .inr (8, [.ref (g 1), .ref (g 2), .ref (g 4), .ref (g 16), .ref (g 64), .ref (g 65), .ref (g 66), .ref (g 70), .ref (g 75), .ref (g 87), .ref (g 94), .int 0, .int 0, .int 0])), ((g 2), .inr (7, [.ref (g 3), .int 0])), ((g 16), .inr (1, [.ref (g 17), .ref (g 18), .ref (g 19), .ref (g 20), .ref (g 21), .ref (g 22), .ref (g 23), .ref (g 24), .ref (g 25), .ref (g 26), .ref (g 27)])), ((g 17), .inl ((a 17), 11, .inl (fun _ => 0)))]) (n := 0) ⟨hx, hb, hml, hown, hT⟩ (k_X5_rowsThere l dC dI g a ) hK hP hD hS hA [0] rfl [1, 2] [0, 3, 4, 5] rfl rfl rfl rfl (by decide) rfl rfl mw_271 mw_272 mw_273 mw_226 mw_274 (by decide +kernel) ⟨Nat.le_of_ble_eq_true rfl, Nat.le_of_ble_eq_true rfl⟩ ⟨rfl, rfl⟩ rfl hl.1 (Nat.le_of_ble_eq_true rfl) rfl dX8_count_44 ⟨Nat.zero_le _, Nat.zero_le _⟩ (fun r f7 H locs er hP hD hS => ?_)
          have hP : va_P (dC, dI) vwCl [((g 0), .inr (8, [.ref (g 1), .ref (g 2), .ref (g 4), .ref (g 16), .ref (g 64), .ref (g 65), .ref (g 66), .ref (g 70), .ref (g 75), .ref (g 87), .ref (g 94), .int 0, .int 0, .int 0])), ((g 2), .inr (7, [.ref (g 3), .int 0])), ((g 16), .inr (1, [.ref (g 17), .ref (g 18), .ref (g 19), .ref (g 20), .ref (g 21), .ref (g 22), .ref (g 23), .ref (g 24), .ref (g 25), .ref (g 26), .ref (g 27)])), ((g 17), .inl ((a 17), 11, .inl (fun _ => 0))), ((g 66), .inr (5, [.ref (g 67), .ref (g 68), .ref (g 69)])), ((g 68), .inl ((a 68), 4, .inl nF))] H := hP
          have hD : va_D A [((g 0), .inr (8, [.ref (g 1), .ref (g 2), .ref (g 4), .ref (g 16), .ref (g 64), .ref (g 65), .ref (g 66), .ref (g 70), .ref (g 75), .ref (g 87), .ref (g 94), .int 0, .int 0, .int 0])), ((g 2), .inr (7, [.ref (g 3), .int 0])), ((g 16), .inr (1, [.ref (g 17), .ref (g 18), .ref (g 19), .ref (g 20), .ref (g 21), .ref (g 22), .ref (g 23), .ref (g 24), .ref (g 25), .ref (g 26), .ref (g 27)])), ((g 17), .inl ((a 17), 11, .inl (fun _ => 0))), ((g 66), .inr (5, [.ref (g 67), .ref (g 68), .ref (g 69)])), ((g 68), .inl ((a 68), 4, .inl nF))] := hD
          have er : r = 0 := er
          subst er
          refine lv_goto (tgt := 51) hx hb dX8_count_47 (by decide) ?_
          exact e_i hx hb hr hlocks hP hD hS (fun _ => 0) [] rfl rfl (by unfold s_count; (repeat' split) <;> first | rfl | omega) dX8_count_51
      · have c5 := i_eq p0.toInt 11 rfl (by decide) c5
        refine lv_aload_n hx hb dX8_count_26 rfl (lv_at hl 0 rfl) ?_
        refine va_get (D := (dC, dI)) (ci := 8) (v := .ref (g 2)) (C := RX8) (T := TX8) (N := 14) hx hb hT inT8 hown hK hP 0 rfl rfl 1 (by decide) (hT _ mw_0) (fun _ h9 => h9) rfl dX8_count_27 ?_
        refine va_get (D := (dC, dI)) (ci := 7) (v := .int 0) (C := RX7) (T := TX7) (N := 2) hx hb hT inT7 hown hK hP 3 rfl rfl 1 (by decide) (hT _ mw_13) (fun _ h9 => h9) rfl dX8_count_30 ?_
        exact e_i hx hb hr hlocks hP hD hS (fun _ => 0) [] rfl rfl (by unfold s_count; (repeat' split) <;> first | rfl | omega) dX8_count_33
    · have c4 := i_nle 11 p0.toInt (by decide) rfl c4
      refine lv_aload_n hx hb dX8_count_10 rfl (lv_at hl 0 rfl) ?_
      refine va_get (D := (dC, dI)) (ci := 8) (v := .ref (g 16)) (C := RX8) (T := TX8) (N := 14) hx hb hT inT8 hown hK hP 0 rfl rfl 3 (by decide) (hT _ mw_45) (fun _ h9 => h9) rfl dX8_count_11 ?_
      refine va_get (D := (dC, dI)) (ci := 1) (v := .ref (g 17)) (C := RX1) (T := TX1) (N := 11) hx hb hT inT1 hown hK hP 4 rfl rfl 0 (by decide) (hT _ mw_76) (fun _ h9 => h9) rfl dX8_count_14 ?_
      refine lv_iload_n hx hb dX8_count_17 rfl (lv_at hl 1 rfl) ?_
      refine va_iald hx hb hK hP 5 1 rfl rfl (i_in (by omega) (by omega)) dX8_count_18 ?_
      refine t_i 0 rfl ?_
      exact e_i hx hb hr hlocks hP hD hS (fun _ => 0) [] rfl rfl (by unfold s_count; (repeat' split) <;> first | rfl | omega) dX8_count_19
set_option maxRecDepth 100000 in
set_option maxHeartbeats 4000000 in
theorem k_X9_count (l : Launch) (dC : Nat → ClassId) (dI : Nat → Nat → Nat) (g : Nat → Nat) (a : Nat → ClassId) (p0 : Int32)  : MI l dC dI yX9_count (Cond.code yX9_count cX9_count 4 (some .int)) ({ frames := 1, cells := 0, slots := 0, locals := 25 }) [.ref (g 0), .int p0] [((a 1), .int), ((a 57), .int)] [((g 0), .inr (9, oM g 0 0 0 0 0 0 (-1))), ((g 1), .inl ((a 1), 68, .inl (fun _ => 0))), ((g 57), .inl ((a 57), 4, .inl nF))] (fun r : Int32 => r = s_count p0.toInt) (fun f => []) := by
  refine m_of (Qc := fun A => QI dC dI A (fun r : Int32 => r = s_count p0.toInt) (fun f => [])) (lv := [(0, .ref (g 0)), (1, .int p0)]) (by decide) (Nat.le_of_ble_eq_true rfl) rfl ?_
  intro p e s m below meth c A ls hx hb hr hml hT hown hlocks hname hP hK hD hS hA hl
  have hown : s.vm.findClass RX9 = some m.cls := hown
  refine lv_iload_n hx hb dX9_count_0 rfl (lv_at hl 1 rfl) ?_
  refine lv_i2l (v := p0.toInt64) hx hb dX9_count_1 rfl ?_
  refine lv_lconst (v := 0) hx hb dX9_count_2 (by decide) ?_
  refine lv_ldc2 (v := 10) hx hb hown (hT _ mw_275) dX9_count_3 ?_
  refine c_Si (As := [.long p0.toInt64, .long 0, .long 10]) (rest := []) (wr := [((g 0), .inr (9, oM g 0 0 0 0 0 0 (-1))), ((g 1), .inl ((a 1), 68, .inl (fun _ => 0))), ((g 57), .inl ((a 57), 4, .inl nF))]) (n := 3) ⟨hx, hb, hml, hown, hT⟩ (k_X9_in l dC dI g a p0.toInt64 0 10 p0.toInt 0 10 (Int32.toInt_toInt64 _) (by decide) (by decide)) hK hP hD hS hA [] rfl [] [0, 1, 2] rfl rfl rfl rfl (by decide) mw_17 mw_18 mw_19 mw_20 (by decide +kernel) ⟨Nat.le_of_ble_eq_true rfl, Nat.le_of_ble_eq_true rfl⟩ ⟨rfl, rfl⟩ rfl hl.1 (Nat.le_of_ble_eq_true rfl) rfl dX9_count_6 ⟨Nat.zero_le _, Nat.zero_le _⟩ (fun r f1 H locs er hP hD hS => ?_)
  have hP : va_P (dC, dI) vwCl [((g 0), .inr (9, oM g 0 0 0 0 0 0 (-1))), ((g 1), .inl ((a 1), 68, .inl (fun _ => 0))), ((g 57), .inl ((a 57), 4, .inl nF))] H := hP
  have hD : va_D A [((g 0), .inr (9, oM g 0 0 0 0 0 0 (-1))), ((g 1), .inl ((a 1), 68, .inl (fun _ => 0))), ((g 57), .inl ((a 57), 4, .inl nF))] := hD
  by_cases hc : (0 : Int) ≤ p0.toInt ∧ p0.toInt ≤ (10 : Int)
  · have er : r = 1 := er.trans (if_pos hc)
    subst er
    refine lv_if_eq (tgt := 19) hx hb dX9_count_9 (by decide) (fun c2 => ?_) (fun c2 => ?_)
    · exact absurd c2 (by decide)
    · refine lv_aload_n hx hb dX9_count_12 rfl (lv_at hl 0 rfl) ?_
      refine va_get (D := (dC, dI)) (ci := 9) (v := .ref (g 1)) (C := RX9) (T := TX9) (N := 61) hx hb hT inT9 hown hK hP 0 rfl rfl 1 (by decide) (hT _ mw_95) (fun _ h9 => h9) rfl dX9_count_13 ?_
      refine lv_iload_n hx hb dX9_count_16 rfl (lv_at hl 1 rfl) ?_
      refine va_iald hx hb hK hP 1 0 rfl rfl (i_in (by omega) (by omega)) dX9_count_17 ?_
      refine t_i 0 rfl ?_
      exact e_i hx hb hr hlocks hP hD hS (fun _ => 0) [] rfl rfl (by unfold s_count; (repeat' split) <;> first | rfl | omega) dX9_count_18
  · have er : r = 0 := er.trans (if_neg hc)
    subst er
    refine lv_if_eq (tgt := 19) hx hb dX9_count_9 (by decide) (fun c3 => ?_) (fun c3 => ?_)
    · refine lv_iload_n hx hb dX9_count_19 rfl (lv_at hl 1 rfl) ?_
      refine lv_bipush (v := 11) hx hb dX9_count_20 (by decide) ?_
      refine lv_icmp_ne (tgt := 30) hx hb dX9_count_22 (by decide) (fun c4 => ?_) (fun c4 => ?_)
      · have c4 := i_neq p0.toInt 11 rfl (by decide) c4
        refine lv_iload_n hx hb dX9_count_30 rfl (lv_at hl 1 rfl) ?_
        refine lv_bipush (v := 12) hx hb dX9_count_31 (by decide) ?_
        refine lv_icmp_eq (tgt := 38) hx hb dX9_count_33 (by decide) (fun c5 => ?_) (fun c5 => ?_)
        · have c5 := i_eq p0.toInt 12 rfl (by decide) c5
          refine lv_iconst (v := 0) hx hb dX9_count_38 (by decide) ?_
          refine lv_istore_n (lv' := [(2, .int 0), (0, .ref (g 0)), (1, .int p0)]) hx hb dX9_count_39 rfl hl (by decide) rfl (fun ls hl => ?_)
          refine lv_iconst (v := 0) hx hb dX9_count_40 (by decide) ?_
          refine lv_istore_n (lv' := [(3, .int 0), (2, .int 0), (0, .ref (g 0)), (1, .int p0)]) hx hb dX9_count_41 rfl hl (by decide) rfl (fun ls hl => ?_)
          refine lv_iload_n hx hb dX9_count_42 rfl (lv_at hl 0 rfl) ?_
          refine lv_iconst (v := 4) hx hb dX9_count_43 (by decide) ?_
          refine lv_icmp_ge (tgt := 71) hx hb dX9_count_44 (by decide) (fun c6 => ?_) (fun c6 => ?_)
          · exact absurd c6 (by decide)
          · refine lv_iload_n hx hb dX9_count_47 rfl (lv_at hl 1 rfl) ?_
            refine lv_aload_n hx hb dX9_count_48 rfl (lv_at hl 2 rfl) ?_
            refine va_get (D := (dC, dI)) (ci := 9) (v := .ref (g 57)) (C := RX9) (T := TX9) (N := 61) hx hb hT inT9 hown hK hP 0 rfl rfl 57 (by decide) (hT _ mw_276) (fun _ h9 => h9) rfl dX9_count_49 ?_
            refine lv_iload_n hx hb dX9_count_52 rfl (lv_at hl 0 rfl) ?_
            refine va_iald hx hb hK hP 2 1 rfl rfl (by unfold vp_in; decide) dX9_count_53 ?_
            refine t_i (-1) rfl ?_
            refine lv_iconst (v := (-1)) hx hb dX9_count_54 (by decide) ?_
            refine lv_icmp_ne (tgt := 62) hx hb dX9_count_55 (by decide) (fun c7 => ?_) (fun c7 => ?_)
            · exact absurd c7 (by decide)
            · refine lv_iconst (v := 0) hx hb dX9_count_58 (by decide) ?_
              refine lv_goto (tgt := 63) hx hb dX9_count_59 (by decide) ?_
              refine lv_iadd hx hb dX9_count_63 ?_
              refine t_i 0 (by decide) ?_
              refine lv_istore_n (lv' := [(2, .int 0), (3, .int 0), (0, .ref (g 0)), (1, .int p0)]) hx hb dX9_count_64 rfl hl (by decide) rfl (fun ls hl => ?_)
              refine lv_iinc (v := 1) (lv' := [(3, .int 1), (2, .int 0), (0, .ref (g 0)), (1, .int p0)]) hx hb dX9_count_65 hl (k := 1) rfl (by decide) (by decide) rfl (fun ls hl => ?_)
              refine lv_goto (tgt := 42) hx hb dX9_count_68 (by decide) ?_
              refine lv_iload_n hx hb dX9_count_42 rfl (lv_at hl 0 rfl) ?_
              refine lv_iconst (v := 4) hx hb dX9_count_43 (by decide) ?_
              refine lv_icmp_ge (tgt := 71) hx hb dX9_count_44 (by decide) (fun c8 => ?_) (fun c8 => ?_)
              · exact absurd c8 (by decide)
              · refine lv_iload_n hx hb dX9_count_47 rfl (lv_at hl 1 rfl) ?_
                refine lv_aload_n hx hb dX9_count_48 rfl (lv_at hl 2 rfl) ?_
                refine va_get (D := (dC, dI)) (ci := 9) (v := .ref (g 57)) (C := RX9) (T := TX9) (N := 61) hx hb hT inT9 hown hK hP 0 rfl rfl 57 (by decide) (hT _ mw_276) (fun _ h9 => h9) rfl dX9_count_49 ?_
                refine lv_iload_n hx hb dX9_count_52 rfl (lv_at hl 0 rfl) ?_
                refine va_iald hx hb hK hP 2 1 rfl rfl (by unfold vp_in; decide) dX9_count_53 ?_
                refine t_i (-1) rfl ?_
                refine lv_iconst (v := (-1)) hx hb dX9_count_54 (by decide) ?_
                refine lv_icmp_ne (tgt := 62) hx hb dX9_count_55 (by decide) (fun c9 => ?_) (fun c9 => ?_)
                · exact absurd c9 (by decide)
                · refine lv_iconst (v := 0) hx hb dX9_count_58 (by decide) ?_
                  refine lv_goto (tgt := 63) hx hb dX9_count_59 (by decide) ?_
                  refine lv_iadd hx hb dX9_count_63 ?_
                  refine t_i 0 (by decide) ?_
                  refine lv_istore_n (lv' := [(2, .int 0), (3, .int 1), (0, .ref (g 0)), (1, .int p0)]) hx hb dX9_count_64 rfl hl (by decide) rfl (fun ls hl => ?_)
                  refine lv_iinc (v := 2) (lv' := [(3, .int 2), (2, .int 0), (0, .ref (g 0)), (1, .int p0)]) hx hb dX9_count_65 hl (k := 1) rfl (by decide) (by decide) rfl (fun ls hl => ?_)
                  refine lv_goto (tgt := 42) hx hb dX9_count_68 (by decide) ?_
                  refine lv_iload_n hx hb dX9_count_42 rfl (lv_at hl 0 rfl) ?_
                  refine lv_iconst (v := 4) hx hb dX9_count_43 (by decide) ?_
                  refine lv_icmp_ge (tgt := 71) hx hb dX9_count_44 (by decide) (fun c10 => ?_) (fun c10 => ?_)
                  · exact absurd c10 (by decide)
                  · refine lv_iload_n hx hb dX9_count_47 rfl (lv_at hl 1 rfl) ?_
                    refine lv_aload_n hx hb dX9_count_48 rfl (lv_at hl 2 rfl) ?_
                    refine va_get (D := (dC, dI)) (ci := 9) (v := .ref (g 57)) (C := RX9) (T := TX9) (N := 61) hx hb hT inT9 hown hK hP 0 rfl rfl 57 (by decide) (hT _ mw_276) (fun _ h9 => h9) rfl dX9_count_49 ?_
                    refine lv_iload_n hx hb dX9_count_52 rfl (lv_at hl 0 rfl) ?_
                    refine va_iald hx hb hK hP 2 1 rfl rfl (by unfold vp_in; decide) dX9_count_53 ?_
                    refine t_i (-1) rfl ?_
                    refine lv_iconst (v := (-1)) hx hb dX9_count_54 (by decide) ?_
                    refine lv_icmp_ne (tgt := 62) hx hb dX9_count_55 (by decide) (fun c11 => ?_) (fun c11 => ?_)
                    · exact absurd c11 (by decide)
                    · refine lv_iconst (v := 0) hx hb dX9_count_58 (by decide) ?_
                      refine lv_goto (tgt := 63) hx hb dX9_count_59 (by decide) ?_
                      refine lv_iadd hx hb dX9_count_63 ?_
                      refine t_i 0 (by decide) ?_
                      refine lv_istore_n (lv' := [(2, .int 0), (3, .int 2), (0, .ref (g 0)), (1, .int p0)]) hx hb dX9_count_64 rfl hl (by decide) rfl (fun ls hl => ?_)
                      refine lv_iinc (v := 3) (lv' := [(3, .int 3), (2, .int 0), (0, .ref (g 0)), (1, .int p0)]) hx hb dX9_count_65 hl (k := 1) rfl (by decide) (by decide) rfl (fun ls hl => ?_)
                      refine lv_goto (tgt := 42) hx hb dX9_count_68 (by decide) ?_
                      refine lv_iload_n hx hb dX9_count_42 rfl (lv_at hl 0 rfl) ?_
                      refine lv_iconst (v := 4) hx hb dX9_count_43 (by decide) ?_
                      refine lv_icmp_ge (tgt := 71) hx hb dX9_count_44 (by decide) (fun c12 => ?_) (fun c12 => ?_)
                      · exact absurd c12 (by decide)
                      · refine lv_iload_n hx hb dX9_count_47 rfl (lv_at hl 1 rfl) ?_
                        refine lv_aload_n hx hb dX9_count_48 rfl (lv_at hl 2 rfl) ?_
                        refine va_get (D := (dC, dI)) (ci := 9) (v := .ref (g 57)) (C := RX9) (T := TX9) (N := 61) hx hb hT inT9 hown hK hP 0 rfl rfl 57 (by decide) (hT _ mw_276) (fun _ h9 => h9) rfl dX9_count_49 ?_
                        refine lv_iload_n hx hb dX9_count_52 rfl (lv_at hl 0 rfl) ?_
                        refine va_iald hx hb hK hP 2 1 rfl rfl (by unfold vp_in; decide) dX9_count_53 ?_
                        refine t_i (-1) rfl ?_
                        refine lv_iconst (v := (-1)) hx hb dX9_count_54 (by decide) ?_
                        refine lv_icmp_ne (tgt := 62) hx hb dX9_count_55 (by decide) (fun c13 => ?_) (fun c13 => ?_)
                        · exact absurd c13 (by decide)
                        · refine lv_iconst (v := 0) hx hb dX9_count_58 (by decide) ?_
                          refine lv_goto (tgt := 63) hx hb dX9_count_59 (by decide) ?_
                          refine lv_iadd hx hb dX9_count_63 ?_
                          refine t_i 0 (by decide) ?_
                          refine lv_istore_n (lv' := [(2, .int 0), (3, .int 3), (0, .ref (g 0)), (1, .int p0)]) hx hb dX9_count_64 rfl hl (by decide) rfl (fun ls hl => ?_)
                          refine lv_iinc (v := 4) (lv' := [(3, .int 4), (2, .int 0), (0, .ref (g 0)), (1, .int p0)]) hx hb dX9_count_65 hl (k := 1) rfl (by decide) (by decide) rfl (fun ls hl => ?_)
                          refine lv_goto (tgt := 42) hx hb dX9_count_68 (by decide) ?_
                          refine lv_iload_n hx hb dX9_count_42 rfl (lv_at hl 0 rfl) ?_
                          refine lv_iconst (v := 4) hx hb dX9_count_43 (by decide) ?_
                          refine lv_icmp_ge (tgt := 71) hx hb dX9_count_44 (by decide) (fun c14 => ?_) (fun c14 => ?_)
                          · refine lv_iload_n hx hb dX9_count_71 rfl (lv_at hl 1 rfl) ?_
                            exact e_i hx hb hr hlocks hP hD hS (fun _ => 0) [] rfl rfl (by unfold s_count; (repeat' split) <;> first | rfl | omega) dX9_count_72
                          · exact absurd c14 (by decide)
        · have c5 := i_neq p0.toInt 12 rfl (by decide) c5
          refine lv_iconst (v := (-1)) hx hb dX9_count_36 (by decide) ?_
          exact e_i hx hb hr hlocks hP hD hS (fun _ => 0) [] rfl rfl (by unfold s_count; (repeat' split) <;> first | rfl | omega) dX9_count_37
      · have c4 := i_eq p0.toInt 11 rfl (by decide) c4
        refine lv_aload_n hx hb dX9_count_25 rfl (lv_at hl 0 rfl) ?_
        refine va_get (D := (dC, dI)) (ci := 9) (v := .int 0) (C := RX9) (T := TX9) (N := 61) hx hb hT inT9 hown hK hP 0 rfl rfl 5 (by decide) (hT _ mw_14) (fun _ h9 => h9) rfl dX9_count_26 ?_
        exact e_i hx hb hr hlocks hP hD hS (fun _ => 0) [] rfl rfl (by unfold s_count; (repeat' split) <;> first | rfl | omega) dX9_count_29
    · exact absurd c3 (by decide)
set_option maxRecDepth 100000 in
set_option maxHeartbeats 4000000 in
theorem k_X1_copyFrom_2 (l : Launch) (dC : Nat → ClassId) (dI : Nat → Nat → Nat) (g : Nat → Nat) (a : Nat → ClassId)   : MV l dC dI yX1_copyFrom (Cond.code yX1_copyFrom cX1_copyFrom 2 none) ({ frames := 1, cells := 0, slots := 0, locals := 24 }) [.ref (g 28), .ref (g 16)] [((a 17), .int), ((a 29), .int), ((a 18), .int), ((a 30), .int), ((a 19), .int), ((a 31), .int), ((a 20), .int), ((a 32), .int), ((a 21), .long), ((a 33), .long), ((a 22), .int), ((a 34), .int), ((a 23), .int), ((a 35), .int), ((a 24), .int), ((a 36), .int), ((a 25), .int), ((a 37), .int), ((a 26), .int), ((a 38), .int), ((a 27), .int), ((a 39), .int)] [((g 28), .inr (1, [.ref (g 29), .ref (g 30), .ref (g 31), .ref (g 32), .ref (g 33), .ref (g 34), .ref (g 35), .ref (g 36), .ref (g 37), .ref (g 38), .ref (g 39)])), ((g 16), .inr (1, [.ref (g 17), .ref (g 18), .ref (g 19), .ref (g 20), .ref (g 21), .ref (g 22), .ref (g 23), .ref (g 24), .ref (g 25), .ref (g 26), .ref (g 27)])), ((g 17), .inl ((a 17), 11, .inl (fun _ => 0))), ((g 29), .inl ((a 29), 11, .inl (fun _ => 0))), ((g 18), .inl ((a 18), 6, .inl (fun _ => 0))), ((g 30), .inl ((a 30), 6, .inl (fun _ => 0))), ((g 19), .inl ((a 19), 6, .inl (fun _ => 0))), ((g 31), .inl ((a 31), 6, .inl (fun _ => 0))), ((g 20), .inl ((a 20), 6, .inl (fun _ => 0))), ((g 32), .inl ((a 32), 6, .inl (fun _ => 0))), ((g 21), .inl ((a 21), 6, .inr (.inl (fun _ => 0)))), ((g 33), .inl ((a 33), 6, .inr (.inl (fun _ => 0)))), ((g 22), .inl ((a 22), 5, .inl (fun _ => 0))), ((g 34), .inl ((a 34), 5, .inl (fun _ => 0))), ((g 23), .inl ((a 23), 5, .inl (fun _ => 0))), ((g 35), .inl ((a 35), 5, .inl (fun _ => 0))), ((g 24), .inl ((a 24), 5, .inl (fun _ => 0))), ((g 36), .inl ((a 36), 5, .inl (fun _ => 0))), ((g 25), .inl ((a 25), 30, .inl (fun _ => 0))), ((g 37), .inl ((a 37), 30, .inl (fun _ => 0))), ((g 26), .inl ((a 26), 30, .inl (fun _ => 0))), ((g 38), .inl ((a 38), 30, .inl (fun _ => 0))), ((g 27), .inl ((a 27), 30, .inl (fun _ => 0))), ((g 39), .inl ((a 39), 30, .inl (fun _ => 0)))] (fun f => [((g 28), .inr (1, [.ref (g 29), .ref (g 30), .ref (g 31), .ref (g 32), .ref (g 33), .ref (g 34), .ref (g 35), .ref (g 36), .ref (g 37), .ref (g 38), .ref (g 39)])), ((g 16), .inr (1, [.ref (g 17), .ref (g 18), .ref (g 19), .ref (g 20), .ref (g 21), .ref (g 22), .ref (g 23), .ref (g 24), .ref (g 25), .ref (g 26), .ref (g 27)])), ((g 17), .inl ((a 17), 11, .inl (fun _ => 0))), ((g 29), .inl ((a 29), 11, .inl (fun _ => 0))), ((g 18), .inl ((a 18), 6, .inl (fun _ => 0))), ((g 30), .inl ((a 30), 6, .inl (fun _ => 0))), ((g 19), .inl ((a 19), 6, .inl (fun _ => 0))), ((g 31), .inl ((a 31), 6, .inl (fun _ => 0))), ((g 20), .inl ((a 20), 6, .inl (fun _ => 0))), ((g 32), .inl ((a 32), 6, .inl (fun _ => 0))), ((g 21), .inl ((a 21), 6, .inr (.inl (fun _ => 0)))), ((g 33), .inl ((a 33), 6, .inr (.inl (fun _ => 0)))), ((g 22), .inl ((a 22), 5, .inl (fun _ => 0))), ((g 34), .inl ((a 34), 5, .inl (fun _ => 0))), ((g 23), .inl ((a 23), 5, .inl (fun _ => 0))), ((g 35), .inl ((a 35), 5, .inl (fun _ => 0))), ((g 24), .inl ((a 24), 5, .inl (fun _ => 0))), ((g 36), .inl ((a 36), 5, .inl (fun _ => 0))), ((g 25), .inl ((a 25), 30, .inl (fun _ => 0))), ((g 37), .inl ((a 37), 30, .inl (fun _ => 0))), ((g 26), .inl ((a 26), 30, .inl (fun _ => 0))), ((g 38), .inl ((a 38), 30, .inl (fun _ => 0))), ((g 27), .inl ((a 27), 30, .inl (fun _ => 0))), ((g 39), .inl ((a 39), 30, .inl (fun _ => 0)))]) := by
  refine m_of (Qc := fun A => QV dC dI A (fun f => [((g 28), .inr (1, [.ref (g 29), .ref (g 30), .ref (g 31), .ref (g 32), .ref (g 33), .ref (g 34), .ref (g 35), .ref (g 36), .ref (g 37), .ref (g 38), .ref (g 39)])), ((g 16), .inr (1, [.ref (g 17), .ref (g 18), .ref (g 19), .ref (g 20), .ref (g 21), .ref (g 22), .ref (g 23), .ref (g 24), .ref (g 25), .ref (g 26), .ref (g 27)])), ((g 17), .inl ((a 17), 11, .inl (fun _ => 0))), ((g 29), .inl ((a 29), 11, .inl (fun _ => 0))), ((g 18), .inl ((a 18), 6, .inl (fun _ => 0))), ((g 30), .inl ((a 30), 6, .inl (fun _ => 0))), ((g 19), .inl ((a 19), 6, .inl (fun _ => 0))), ((g 31), .inl ((a 31), 6, .inl (fun _ => 0))), ((g 20), .inl ((a 20), 6, .inl (fun _ => 0))), ((g 32), .inl ((a 32), 6, .inl (fun _ => 0))), ((g 21), .inl ((a 21), 6, .inr (.inl (fun _ => 0)))), ((g 33), .inl ((a 33), 6, .inr (.inl (fun _ => 0)))), ((g 22), .inl ((a 22), 5, .inl (fun _ => 0))), ((g 34), .inl ((a 34), 5, .inl (fun _ => 0))), ((g 23), .inl ((a 23), 5, .inl (fun _ => 0))), ((g 35), .inl ((a 35), 5, .inl (fun _ => 0))), ((g 24), .inl ((a 24), 5, .inl (fun _ => 0))), ((g 36), .inl ((a 36), 5, .inl (fun _ => 0))), ((g 25), .inl ((a 25), 30, .inl (fun _ => 0))), ((g 37), .inl ((a 37), 30, .inl (fun _ => 0))), ((g 26), .inl ((a 26), 30, .inl (fun _ => 0))), ((g 38), .inl ((a 38), 30, .inl (fun _ => 0))), ((g 27), .inl ((a 27), 30, .inl (fun _ => 0))), ((g 39), .inl ((a 39), 30, .inl (fun _ => 0)))])) (lv := [(0, .ref (g 28)), (1, .ref (g 16))]) (by decide) (Nat.le_of_ble_eq_true rfl) rfl ?_
  intro p e s m below meth c A ls hx hb hr hml hT hown hlocks hname hP hK hD hS hA hl
  have hown : s.vm.findClass RX1 = some m.cls := hown
  refine lv_aload_n hx hb dX1_copyFrom_0 rfl (lv_at hl 1 rfl) ?_
  refine va_get (D := (dC, dI)) (ci := 1) (v := .ref (g 17)) (C := RX1) (T := TX1) (N := 11) hx hb hT inT1 hown hK hP 1 rfl rfl 0 (by decide) (hT _ mw_23) (fun _ h9 => h9) rfl dX1_copyFrom_1 ?_
  refine lv_iconst (v := 0) hx hb dX1_copyFrom_4 (by decide) ?_
  refine lv_aload_n hx hb dX1_copyFrom_5 rfl (lv_at hl 0 rfl) ?_
  refine va_get (D := (dC, dI)) (ci := 1) (v := .ref (g 29)) (C := RX1) (T := TX1) (N := 11) hx hb hT inT1 hown hK hP 0 rfl rfl 0 (by decide) (hT _ mw_23) (fun _ h9 => h9) rfl dX1_copyFrom_6 ?_
  refine lv_iconst (v := 0) hx hb dX1_copyFrom_9 (by decide) ?_
  refine lv_bipush (v := 11) hx hb dX1_copyFrom_10 (by decide) ?_
  refine va_copyi hx hb (hml.trans hl.1.symm) hown (hT _ mw_46) (hT _ mw_47) (hT _ mw_48) (hT _ mw_49) hK hP hD hS 2 3 0 1 rfl rfl rfl rfl rfl (by decide) (by decide) (by decide) (by decide) (by decide) (fun i _ => rfl) (Nat.le_of_ble_eq_true rfl) (Nat.le_of_ble_eq_true rfl) dX1_copyFrom_12 (fun H locs hP hD hS => ?_)
  have hP : va_P (dC, dI) vwCl [((g 28), .inr (1, [.ref (g 29), .ref (g 30), .ref (g 31), .ref (g 32), .ref (g 33), .ref (g 34), .ref (g 35), .ref (g 36), .ref (g 37), .ref (g 38), .ref (g 39)])), ((g 16), .inr (1, [.ref (g 17), .ref (g 18), .ref (g 19), .ref (g 20), .ref (g 21), .ref (g 22), .ref (g 23), .ref (g 24), .ref (g 25), .ref (g 26), .ref (g 27)])), ((g 17), .inl ((a 17), 11, .inl (fun _ => 0))), ((g 29), .inl ((a 29), 11, .inl (va_cpy (fun _ => 0) (fun _ => 0) (0 : Int32).toNatClampNeg (0 : Int32).toNatClampNeg (11 : Int32).toNatClampNeg))), ((g 18), .inl ((a 18), 6, .inl (fun _ => 0))), ((g 30), .inl ((a 30), 6, .inl (fun _ => 0))), ((g 19), .inl ((a 19), 6, .inl (fun _ => 0))), ((g 31), .inl ((a 31), 6, .inl (fun _ => 0))), ((g 20), .inl ((a 20), 6, .inl (fun _ => 0))), ((g 32), .inl ((a 32), 6, .inl (fun _ => 0))), ((g 21), .inl ((a 21), 6, .inr (.inl (fun _ => 0)))), ((g 33), .inl ((a 33), 6, .inr (.inl (fun _ => 0)))), ((g 22), .inl ((a 22), 5, .inl (fun _ => 0))), ((g 34), .inl ((a 34), 5, .inl (fun _ => 0))), ((g 23), .inl ((a 23), 5, .inl (fun _ => 0))), ((g 35), .inl ((a 35), 5, .inl (fun _ => 0))), ((g 24), .inl ((a 24), 5, .inl (fun _ => 0))), ((g 36), .inl ((a 36), 5, .inl (fun _ => 0))), ((g 25), .inl ((a 25), 30, .inl (fun _ => 0))), ((g 37), .inl ((a 37), 30, .inl (fun _ => 0))), ((g 26), .inl ((a 26), 30, .inl (fun _ => 0))), ((g 38), .inl ((a 38), 30, .inl (fun _ => 0))), ((g 27), .inl ((a 27), 30, .inl (fun _ => 0))), ((g 39), .inl ((a 39), 30, .inl (fun _ => 0)))] H := hP
  have hD : va_D A [((g 28), .inr (1, [.ref (g 29), .ref (g 30), .ref (g 31), .ref (g 32), .ref (g 33), .ref (g 34), .ref (g 35), .ref (g 36), .ref (g 37), .ref (g 38), .ref (g 39)])), ((g 16), .inr (1, [.ref (g 17), .ref (g 18), .ref (g 19), .ref (g 20), .ref (g 21), .ref (g 22), .ref (g 23), .ref (g 24), .ref (g 25), .ref (g 26), .ref (g 27)])), ((g 17), .inl ((a 17), 11, .inl (fun _ => 0))), ((g 29), .inl ((a 29), 11, .inl (va_cpy (fun _ => 0) (fun _ => 0) (0 : Int32).toNatClampNeg (0 : Int32).toNatClampNeg (11 : Int32).toNatClampNeg))), ((g 18), .inl ((a 18), 6, .inl (fun _ => 0))), ((g 30), .inl ((a 30), 6, .inl (fun _ => 0))), ((g 19), .inl ((a 19), 6, .inl (fun _ => 0))), ((g 31), .inl ((a 31), 6, .inl (fun _ => 0))), ((g 20), .inl ((a 20), 6, .inl (fun _ => 0))), ((g 32), .inl ((a 32), 6, .inl (fun _ => 0))), ((g 21), .inl ((a 21), 6, .inr (.inl (fun _ => 0)))), ((g 33), .inl ((a 33), 6, .inr (.inl (fun _ => 0)))), ((g 22), .inl ((a 22), 5, .inl (fun _ => 0))), ((g 34), .inl ((a 34), 5, .inl (fun _ => 0))), ((g 23), .inl ((a 23), 5, .inl (fun _ => 0))), ((g 35), .inl ((a 35), 5, .inl (fun _ => 0))), ((g 24), .inl ((a 24), 5, .inl (fun _ => 0))), ((g 36), .inl ((a 36), 5, .inl (fun _ => 0))), ((g 25), .inl ((a 25), 30, .inl (fun _ => 0))), ((g 37), .inl ((a 37), 30, .inl (fun _ => 0))), ((g 26), .inl ((a 26), 30, .inl (fun _ => 0))), ((g 38), .inl ((a 38), 30, .inl (fun _ => 0))), ((g 27), .inl ((a 27), 30, .inl (fun _ => 0))), ((g 39), .inl ((a 39), 30, .inl (fun _ => 0)))] := hD
  rw [c_z] at hP hD
  refine lv_aload_n hx hb dX1_copyFrom_15 rfl (lv_at hl 1 rfl) ?_
  refine va_get (D := (dC, dI)) (ci := 1) (v := .ref (g 18)) (C := RX1) (T := TX1) (N := 11) hx hb hT inT1 hown hK hP 1 rfl rfl 1 (by decide) (hT _ mw_50) (fun _ h9 => h9) rfl dX1_copyFrom_16 ?_
  refine lv_iconst (v := 0) hx hb dX1_copyFrom_19 (by decide) ?_
  refine lv_aload_n hx hb dX1_copyFrom_20 rfl (lv_at hl 0 rfl) ?_
  refine va_get (D := (dC, dI)) (ci := 1) (v := .ref (g 30)) (C := RX1) (T := TX1) (N := 11) hx hb hT inT1 hown hK hP 0 rfl rfl 1 (by decide) (hT _ mw_50) (fun _ h9 => h9) rfl dX1_copyFrom_21 ?_
  refine lv_iconst (v := 0) hx hb dX1_copyFrom_24 (by decide) ?_
  refine lv_bipush (v := 6) hx hb dX1_copyFrom_25 (by decide) ?_
  refine va_copyi hx hb (hml.trans hl.1.symm) hown (hT _ mw_46) (hT _ mw_47) (hT _ mw_48) (hT _ mw_49) hK hP hD hS 4 5 2 3 rfl rfl rfl rfl rfl (by decide) (by decide) (by decide) (by decide) (by decide) (fun i _ => rfl) (Nat.le_of_ble_eq_true rfl) (Nat.le_of_ble_eq_true rfl) dX1_copyFrom_27 (fun H locs hP hD hS => ?_)
  have hP : va_P (dC, dI) vwCl [((g 28), .inr (1, [.ref (g 29), .ref (g 30), .ref (g 31), .ref (g 32), .ref (g 33), .ref (g 34), .ref (g 35), .ref (g 36), .ref (g 37), .ref (g 38), .ref (g 39)])), ((g 16), .inr (1, [.ref (g 17), .ref (g 18), .ref (g 19), .ref (g 20), .ref (g 21), .ref (g 22), .ref (g 23), .ref (g 24), .ref (g 25), .ref (g 26), .ref (g 27)])), ((g 17), .inl ((a 17), 11, .inl (fun _ => 0))), ((g 29), .inl ((a 29), 11, .inl (fun _ => 0))), ((g 18), .inl ((a 18), 6, .inl (fun _ => 0))), ((g 30), .inl ((a 30), 6, .inl (va_cpy (fun _ => 0) (fun _ => 0) (0 : Int32).toNatClampNeg (0 : Int32).toNatClampNeg (6 : Int32).toNatClampNeg))), ((g 19), .inl ((a 19), 6, .inl (fun _ => 0))), ((g 31), .inl ((a 31), 6, .inl (fun _ => 0))), ((g 20), .inl ((a 20), 6, .inl (fun _ => 0))), ((g 32), .inl ((a 32), 6, .inl (fun _ => 0))), ((g 21), .inl ((a 21), 6, .inr (.inl (fun _ => 0)))), ((g 33), .inl ((a 33), 6, .inr (.inl (fun _ => 0)))), ((g 22), .inl ((a 22), 5, .inl (fun _ => 0))), ((g 34), .inl ((a 34), 5, .inl (fun _ => 0))), ((g 23), .inl ((a 23), 5, .inl (fun _ => 0))), ((g 35), .inl ((a 35), 5, .inl (fun _ => 0))), ((g 24), .inl ((a 24), 5, .inl (fun _ => 0))), ((g 36), .inl ((a 36), 5, .inl (fun _ => 0))), ((g 25), .inl ((a 25), 30, .inl (fun _ => 0))), ((g 37), .inl ((a 37), 30, .inl (fun _ => 0))), ((g 26), .inl ((a 26), 30, .inl (fun _ => 0))), ((g 38), .inl ((a 38), 30, .inl (fun _ => 0))), ((g 27), .inl ((a 27), 30, .inl (fun _ => 0))), ((g 39), .inl ((a 39), 30, .inl (fun _ => 0)))] H := hP
  have hD : va_D A [((g 28), .inr (1, [.ref (g 29), .ref (g 30), .ref (g 31), .ref (g 32), .ref (g 33), .ref (g 34), .ref (g 35), .ref (g 36), .ref (g 37), .ref (g 38), .ref (g 39)])), ((g 16), .inr (1, [.ref (g 17), .ref (g 18), .ref (g 19), .ref (g 20), .ref (g 21), .ref (g 22), .ref (g 23), .ref (g 24), .ref (g 25), .ref (g 26), .ref (g 27)])), ((g 17), .inl ((a 17), 11, .inl (fun _ => 0))), ((g 29), .inl ((a 29), 11, .inl (fun _ => 0))), ((g 18), .inl ((a 18), 6, .inl (fun _ => 0))), ((g 30), .inl ((a 30), 6, .inl (va_cpy (fun _ => 0) (fun _ => 0) (0 : Int32).toNatClampNeg (0 : Int32).toNatClampNeg (6 : Int32).toNatClampNeg))), ((g 19), .inl ((a 19), 6, .inl (fun _ => 0))), ((g 31), .inl ((a 31), 6, .inl (fun _ => 0))), ((g 20), .inl ((a 20), 6, .inl (fun _ => 0))), ((g 32), .inl ((a 32), 6, .inl (fun _ => 0))), ((g 21), .inl ((a 21), 6, .inr (.inl (fun _ => 0)))), ((g 33), .inl ((a 33), 6, .inr (.inl (fun _ => 0)))), ((g 22), .inl ((a 22), 5, .inl (fun _ => 0))), ((g 34), .inl ((a 34), 5, .inl (fun _ => 0))), ((g 23), .inl ((a 23), 5, .inl (fun _ => 0))), ((g 35), .inl ((a 35), 5, .inl (fun _ => 0))), ((g 24), .inl ((a 24), 5, .inl (fun _ => 0))), ((g 36), .inl ((a 36), 5, .inl (fun _ => 0))), ((g 25), .inl ((a 25), 30, .inl (fun _ => 0))), ((g 37), .inl ((a 37), 30, .inl (fun _ => 0))), ((g 26), .inl ((a 26), 30, .inl (fun _ => 0))), ((g 38), .inl ((a 38), 30, .inl (fun _ => 0))), ((g 27), .inl ((a 27), 30, .inl (fun _ => 0))), ((g 39), .inl ((a 39), 30, .inl (fun _ => 0)))] := hD
  rw [c_z] at hP hD
  refine lv_aload_n hx hb dX1_copyFrom_30 rfl (lv_at hl 1 rfl) ?_
  refine va_get (D := (dC, dI)) (ci := 1) (v := .ref (g 19)) (C := RX1) (T := TX1) (N := 11) hx hb hT inT1 hown hK hP 1 rfl rfl 2 (by decide) (hT _ mw_51) (fun _ h9 => h9) rfl dX1_copyFrom_31 ?_
  refine lv_iconst (v := 0) hx hb dX1_copyFrom_34 (by decide) ?_
  refine lv_aload_n hx hb dX1_copyFrom_35 rfl (lv_at hl 0 rfl) ?_
  refine va_get (D := (dC, dI)) (ci := 1) (v := .ref (g 31)) (C := RX1) (T := TX1) (N := 11) hx hb hT inT1 hown hK hP 0 rfl rfl 2 (by decide) (hT _ mw_51) (fun _ h9 => h9) rfl dX1_copyFrom_36 ?_
  refine lv_iconst (v := 0) hx hb dX1_copyFrom_39 (by decide) ?_
  refine lv_bipush (v := 6) hx hb dX1_copyFrom_40 (by decide) ?_
  refine va_copyi hx hb (hml.trans hl.1.symm) hown (hT _ mw_46) (hT _ mw_47) (hT _ mw_48) (hT _ mw_49) hK hP hD hS 6 7 4 5 rfl rfl rfl rfl rfl (by decide) (by decide) (by decide) (by decide) (by decide) (fun i _ => rfl) (Nat.le_of_ble_eq_true rfl) (Nat.le_of_ble_eq_true rfl) dX1_copyFrom_42 (fun H locs hP hD hS => ?_)
  have hP : va_P (dC, dI) vwCl [((g 28), .inr (1, [.ref (g 29), .ref (g 30), .ref (g 31), .ref (g 32), .ref (g 33), .ref (g 34), .ref (g 35), .ref (g 36), .ref (g 37), .ref (g 38), .ref (g 39)])), ((g 16), .inr (1, [.ref (g 17), .ref (g 18), .ref (g 19), .ref (g 20), .ref (g 21), .ref (g 22), .ref (g 23), .ref (g 24), .ref (g 25), .ref (g 26), .ref (g 27)])), ((g 17), .inl ((a 17), 11, .inl (fun _ => 0))), ((g 29), .inl ((a 29), 11, .inl (fun _ => 0))), ((g 18), .inl ((a 18), 6, .inl (fun _ => 0))), ((g 30), .inl ((a 30), 6, .inl (fun _ => 0))), ((g 19), .inl ((a 19), 6, .inl (fun _ => 0))), ((g 31), .inl ((a 31), 6, .inl (va_cpy (fun _ => 0) (fun _ => 0) (0 : Int32).toNatClampNeg (0 : Int32).toNatClampNeg (6 : Int32).toNatClampNeg))), ((g 20), .inl ((a 20), 6, .inl (fun _ => 0))), ((g 32), .inl ((a 32), 6, .inl (fun _ => 0))), ((g 21), .inl ((a 21), 6, .inr (.inl (fun _ => 0)))), ((g 33), .inl ((a 33), 6, .inr (.inl (fun _ => 0)))), ((g 22), .inl ((a 22), 5, .inl (fun _ => 0))), ((g 34), .inl ((a 34), 5, .inl (fun _ => 0))), ((g 23), .inl ((a 23), 5, .inl (fun _ => 0))), ((g 35), .inl ((a 35), 5, .inl (fun _ => 0))), ((g 24), .inl ((a 24), 5, .inl (fun _ => 0))), ((g 36), .inl ((a 36), 5, .inl (fun _ => 0))), ((g 25), .inl ((a 25), 30, .inl (fun _ => 0))), ((g 37), .inl ((a 37), 30, .inl (fun _ => 0))), ((g 26), .inl ((a 26), 30, .inl (fun _ => 0))), ((g 38), .inl ((a 38), 30, .inl (fun _ => 0))), ((g 27), .inl ((a 27), 30, .inl (fun _ => 0))), ((g 39), .inl ((a 39), 30, .inl (fun _ => 0)))] H := hP
  have hD : va_D A [((g 28), .inr (1, [.ref (g 29), .ref (g 30), .ref (g 31), .ref (g 32), .ref (g 33), .ref (g 34), .ref (g 35), .ref (g 36), .ref (g 37), .ref (g 38), .ref (g 39)])), ((g 16), .inr (1, [.ref (g 17), .ref (g 18), .ref (g 19), .ref (g 20), .ref (g 21), .ref (g 22), .ref (g 23), .ref (g 24), .ref (g 25), .ref (g 26), .ref (g 27)])), ((g 17), .inl ((a 17), 11, .inl (fun _ => 0))), ((g 29), .inl ((a 29), 11, .inl (fun _ => 0))), ((g 18), .inl ((a 18), 6, .inl (fun _ => 0))), ((g 30), .inl ((a 30), 6, .inl (fun _ => 0))), ((g 19), .inl ((a 19), 6, .inl (fun _ => 0))), ((g 31), .inl ((a 31), 6, .inl (va_cpy (fun _ => 0) (fun _ => 0) (0 : Int32).toNatClampNeg (0 : Int32).toNatClampNeg (6 : Int32).toNatClampNeg))), ((g 20), .inl ((a 20), 6, .inl (fun _ => 0))), ((g 32), .inl ((a 32), 6, .inl (fun _ => 0))), ((g 21), .inl ((a 21), 6, .inr (.inl (fun _ => 0)))), ((g 33), .inl ((a 33), 6, .inr (.inl (fun _ => 0)))), ((g 22), .inl ((a 22), 5, .inl (fun _ => 0))), ((g 34), .inl ((a 34), 5, .inl (fun _ => 0))), ((g 23), .inl ((a 23), 5, .inl (fun _ => 0))), ((g 35), .inl ((a 35), 5, .inl (fun _ => 0))), ((g 24), .inl ((a 24), 5, .inl (fun _ => 0))), ((g 36), .inl ((a 36), 5, .inl (fun _ => 0))), ((g 25), .inl ((a 25), 30, .inl (fun _ => 0))), ((g 37), .inl ((a 37), 30, .inl (fun _ => 0))), ((g 26), .inl ((a 26), 30, .inl (fun _ => 0))), ((g 38), .inl ((a 38), 30, .inl (fun _ => 0))), ((g 27), .inl ((a 27), 30, .inl (fun _ => 0))), ((g 39), .inl ((a 39), 30, .inl (fun _ => 0)))] := hD
  rw [c_z] at hP hD
  refine lv_aload_n hx hb dX1_copyFrom_45 rfl (lv_at hl 1 rfl) ?_
  refine va_get (D := (dC, dI)) (ci := 1) (v := .ref (g 20)) (C := RX1) (T := TX1) (N := 11) hx hb hT inT1 hown hK hP 1 rfl rfl 3 (by decide) (hT _ mw_52) (fun _ h9 => h9) rfl dX1_copyFrom_46 ?_
  refine lv_iconst (v := 0) hx hb dX1_copyFrom_49 (by decide) ?_
  refine lv_aload_n hx hb dX1_copyFrom_50 rfl (lv_at hl 0 rfl) ?_
  refine va_get (D := (dC, dI)) (ci := 1) (v := .ref (g 32)) (C := RX1) (T := TX1) (N := 11) hx hb hT inT1 hown hK hP 0 rfl rfl 3 (by decide) (hT _ mw_52) (fun _ h9 => h9) rfl dX1_copyFrom_51 ?_
  refine lv_iconst (v := 0) hx hb dX1_copyFrom_54 (by decide) ?_
  refine lv_bipush (v := 6) hx hb dX1_copyFrom_55 (by decide) ?_
  refine va_copyi hx hb (hml.trans hl.1.symm) hown (hT _ mw_46) (hT _ mw_47) (hT _ mw_48) (hT _ mw_49) hK hP hD hS 8 9 6 7 rfl rfl rfl rfl rfl (by decide) (by decide) (by decide) (by decide) (by decide) (fun i _ => rfl) (Nat.le_of_ble_eq_true rfl) (Nat.le_of_ble_eq_true rfl) dX1_copyFrom_57 (fun H locs hP hD hS => ?_)
  have hP : va_P (dC, dI) vwCl [((g 28), .inr (1, [.ref (g 29), .ref (g 30), .ref (g 31), .ref (g 32), .ref (g 33), .ref (g 34), .ref (g 35), .ref (g 36), .ref (g 37), .ref (g 38), .ref (g 39)])), ((g 16), .inr (1, [.ref (g 17), .ref (g 18), .ref (g 19), .ref (g 20), .ref (g 21), .ref (g 22), .ref (g 23), .ref (g 24), .ref (g 25), .ref (g 26), .ref (g 27)])), ((g 17), .inl ((a 17), 11, .inl (fun _ => 0))), ((g 29), .inl ((a 29), 11, .inl (fun _ => 0))), ((g 18), .inl ((a 18), 6, .inl (fun _ => 0))), ((g 30), .inl ((a 30), 6, .inl (fun _ => 0))), ((g 19), .inl ((a 19), 6, .inl (fun _ => 0))), ((g 31), .inl ((a 31), 6, .inl (fun _ => 0))), ((g 20), .inl ((a 20), 6, .inl (fun _ => 0))), ((g 32), .inl ((a 32), 6, .inl (va_cpy (fun _ => 0) (fun _ => 0) (0 : Int32).toNatClampNeg (0 : Int32).toNatClampNeg (6 : Int32).toNatClampNeg))), ((g 21), .inl ((a 21), 6, .inr (.inl (fun _ => 0)))), ((g 33), .inl ((a 33), 6, .inr (.inl (fun _ => 0)))), ((g 22), .inl ((a 22), 5, .inl (fun _ => 0))), ((g 34), .inl ((a 34), 5, .inl (fun _ => 0))), ((g 23), .inl ((a 23), 5, .inl (fun _ => 0))), ((g 35), .inl ((a 35), 5, .inl (fun _ => 0))), ((g 24), .inl ((a 24), 5, .inl (fun _ => 0))), ((g 36), .inl ((a 36), 5, .inl (fun _ => 0))), ((g 25), .inl ((a 25), 30, .inl (fun _ => 0))), ((g 37), .inl ((a 37), 30, .inl (fun _ => 0))), ((g 26), .inl ((a 26), 30, .inl (fun _ => 0))), ((g 38), .inl ((a 38), 30, .inl (fun _ => 0))), ((g 27), .inl ((a 27), 30, .inl (fun _ => 0))), ((g 39), .inl ((a 39), 30, .inl (fun _ => 0)))] H := hP
  have hD : va_D A [((g 28), .inr (1, [.ref (g 29), .ref (g 30), .ref (g 31), .ref (g 32), .ref (g 33), .ref (g 34), .ref (g 35), .ref (g 36), .ref (g 37), .ref (g 38), .ref (g 39)])), ((g 16), .inr (1, [.ref (g 17), .ref (g 18), .ref (g 19), .ref (g 20), .ref (g 21), .ref (g 22), .ref (g 23), .ref (g 24), .ref (g 25), .ref (g 26), .ref (g 27)])), ((g 17), .inl ((a 17), 11, .inl (fun _ => 0))), ((g 29), .inl ((a 29), 11, .inl (fun _ => 0))), ((g 18), .inl ((a 18), 6, .inl (fun _ => 0))), ((g 30), .inl ((a 30), 6, .inl (fun _ => 0))), ((g 19), .inl ((a 19), 6, .inl (fun _ => 0))), ((g 31), .inl ((a 31), 6, .inl (fun _ => 0))), ((g 20), .inl ((a 20), 6, .inl (fun _ => 0))), ((g 32), .inl ((a 32), 6, .inl (va_cpy (fun _ => 0) (fun _ => 0) (0 : Int32).toNatClampNeg (0 : Int32).toNatClampNeg (6 : Int32).toNatClampNeg))), ((g 21), .inl ((a 21), 6, .inr (.inl (fun _ => 0)))), ((g 33), .inl ((a 33), 6, .inr (.inl (fun _ => 0)))), ((g 22), .inl ((a 22), 5, .inl (fun _ => 0))), ((g 34), .inl ((a 34), 5, .inl (fun _ => 0))), ((g 23), .inl ((a 23), 5, .inl (fun _ => 0))), ((g 35), .inl ((a 35), 5, .inl (fun _ => 0))), ((g 24), .inl ((a 24), 5, .inl (fun _ => 0))), ((g 36), .inl ((a 36), 5, .inl (fun _ => 0))), ((g 25), .inl ((a 25), 30, .inl (fun _ => 0))), ((g 37), .inl ((a 37), 30, .inl (fun _ => 0))), ((g 26), .inl ((a 26), 30, .inl (fun _ => 0))), ((g 38), .inl ((a 38), 30, .inl (fun _ => 0))), ((g 27), .inl ((a 27), 30, .inl (fun _ => 0))), ((g 39), .inl ((a 39), 30, .inl (fun _ => 0)))] := hD
  rw [c_z] at hP hD
  refine lv_aload_n hx hb dX1_copyFrom_60 rfl (lv_at hl 1 rfl) ?_
  refine va_get (D := (dC, dI)) (ci := 1) (v := .ref (g 21)) (C := RX1) (T := TX1) (N := 11) hx hb hT inT1 hown hK hP 1 rfl rfl 4 (by decide) (hT _ mw_53) (fun _ h9 => h9) rfl dX1_copyFrom_61 ?_
  refine lv_iconst (v := 0) hx hb dX1_copyFrom_64 (by decide) ?_
  refine lv_aload_n hx hb dX1_copyFrom_65 rfl (lv_at hl 0 rfl) ?_
  refine va_get (D := (dC, dI)) (ci := 1) (v := .ref (g 33)) (C := RX1) (T := TX1) (N := 11) hx hb hT inT1 hown hK hP 0 rfl rfl 4 (by decide) (hT _ mw_53) (fun _ h9 => h9) rfl dX1_copyFrom_66 ?_
  refine lv_iconst (v := 0) hx hb dX1_copyFrom_69 (by decide) ?_
  refine lv_bipush (v := 6) hx hb dX1_copyFrom_70 (by decide) ?_
  refine va_copyl hx hb (hml.trans hl.1.symm) hown (hT _ mw_46) (hT _ mw_47) (hT _ mw_48) (hT _ mw_49) hK hP hD hS 10 11 8 9 rfl rfl rfl rfl rfl (by decide) (by decide) (by decide) (by decide) (by decide) (fun i _ => rfl) (Nat.le_of_ble_eq_true rfl) (Nat.le_of_ble_eq_true rfl) dX1_copyFrom_72 (fun H locs hP hD hS => ?_)
  have hP : va_P (dC, dI) vwCl [((g 28), .inr (1, [.ref (g 29), .ref (g 30), .ref (g 31), .ref (g 32), .ref (g 33), .ref (g 34), .ref (g 35), .ref (g 36), .ref (g 37), .ref (g 38), .ref (g 39)])), ((g 16), .inr (1, [.ref (g 17), .ref (g 18), .ref (g 19), .ref (g 20), .ref (g 21), .ref (g 22), .ref (g 23), .ref (g 24), .ref (g 25), .ref (g 26), .ref (g 27)])), ((g 17), .inl ((a 17), 11, .inl (fun _ => 0))), ((g 29), .inl ((a 29), 11, .inl (fun _ => 0))), ((g 18), .inl ((a 18), 6, .inl (fun _ => 0))), ((g 30), .inl ((a 30), 6, .inl (fun _ => 0))), ((g 19), .inl ((a 19), 6, .inl (fun _ => 0))), ((g 31), .inl ((a 31), 6, .inl (fun _ => 0))), ((g 20), .inl ((a 20), 6, .inl (fun _ => 0))), ((g 32), .inl ((a 32), 6, .inl (fun _ => 0))), ((g 21), .inl ((a 21), 6, .inr (.inl (fun _ => 0)))), ((g 33), .inl ((a 33), 6, .inr (.inl (va_cpy (fun _ => 0) (fun _ => 0) (0 : Int32).toNatClampNeg (0 : Int32).toNatClampNeg (6 : Int32).toNatClampNeg)))), ((g 22), .inl ((a 22), 5, .inl (fun _ => 0))), ((g 34), .inl ((a 34), 5, .inl (fun _ => 0))), ((g 23), .inl ((a 23), 5, .inl (fun _ => 0))), ((g 35), .inl ((a 35), 5, .inl (fun _ => 0))), ((g 24), .inl ((a 24), 5, .inl (fun _ => 0))), ((g 36), .inl ((a 36), 5, .inl (fun _ => 0))), ((g 25), .inl ((a 25), 30, .inl (fun _ => 0))), ((g 37), .inl ((a 37), 30, .inl (fun _ => 0))), ((g 26), .inl ((a 26), 30, .inl (fun _ => 0))), ((g 38), .inl ((a 38), 30, .inl (fun _ => 0))), ((g 27), .inl ((a 27), 30, .inl (fun _ => 0))), ((g 39), .inl ((a 39), 30, .inl (fun _ => 0)))] H := hP
  have hD : va_D A [((g 28), .inr (1, [.ref (g 29), .ref (g 30), .ref (g 31), .ref (g 32), .ref (g 33), .ref (g 34), .ref (g 35), .ref (g 36), .ref (g 37), .ref (g 38), .ref (g 39)])), ((g 16), .inr (1, [.ref (g 17), .ref (g 18), .ref (g 19), .ref (g 20), .ref (g 21), .ref (g 22), .ref (g 23), .ref (g 24), .ref (g 25), .ref (g 26), .ref (g 27)])), ((g 17), .inl ((a 17), 11, .inl (fun _ => 0))), ((g 29), .inl ((a 29), 11, .inl (fun _ => 0))), ((g 18), .inl ((a 18), 6, .inl (fun _ => 0))), ((g 30), .inl ((a 30), 6, .inl (fun _ => 0))), ((g 19), .inl ((a 19), 6, .inl (fun _ => 0))), ((g 31), .inl ((a 31), 6, .inl (fun _ => 0))), ((g 20), .inl ((a 20), 6, .inl (fun _ => 0))), ((g 32), .inl ((a 32), 6, .inl (fun _ => 0))), ((g 21), .inl ((a 21), 6, .inr (.inl (fun _ => 0)))), ((g 33), .inl ((a 33), 6, .inr (.inl (va_cpy (fun _ => 0) (fun _ => 0) (0 : Int32).toNatClampNeg (0 : Int32).toNatClampNeg (6 : Int32).toNatClampNeg)))), ((g 22), .inl ((a 22), 5, .inl (fun _ => 0))), ((g 34), .inl ((a 34), 5, .inl (fun _ => 0))), ((g 23), .inl ((a 23), 5, .inl (fun _ => 0))), ((g 35), .inl ((a 35), 5, .inl (fun _ => 0))), ((g 24), .inl ((a 24), 5, .inl (fun _ => 0))), ((g 36), .inl ((a 36), 5, .inl (fun _ => 0))), ((g 25), .inl ((a 25), 30, .inl (fun _ => 0))), ((g 37), .inl ((a 37), 30, .inl (fun _ => 0))), ((g 26), .inl ((a 26), 30, .inl (fun _ => 0))), ((g 38), .inl ((a 38), 30, .inl (fun _ => 0))), ((g 27), .inl ((a 27), 30, .inl (fun _ => 0))), ((g 39), .inl ((a 39), 30, .inl (fun _ => 0)))] := hD
  rw [c_z] at hP hD
  refine lv_aload_n hx hb dX1_copyFrom_75 rfl (lv_at hl 1 rfl) ?_
  refine va_get (D := (dC, dI)) (ci := 1) (v := .ref (g 22)) (C := RX1) (T := TX1) (N := 11) hx hb hT inT1 hown hK hP 1 rfl rfl 5 (by decide) (hT _ mw_54) (fun _ h9 => h9) rfl dX1_copyFrom_76 ?_
  refine lv_iconst (v := 0) hx hb dX1_copyFrom_79 (by decide) ?_
  refine lv_aload_n hx hb dX1_copyFrom_80 rfl (lv_at hl 0 rfl) ?_
  refine va_get (D := (dC, dI)) (ci := 1) (v := .ref (g 34)) (C := RX1) (T := TX1) (N := 11) hx hb hT inT1 hown hK hP 0 rfl rfl 5 (by decide) (hT _ mw_54) (fun _ h9 => h9) rfl dX1_copyFrom_81 ?_
  refine lv_iconst (v := 0) hx hb dX1_copyFrom_84 (by decide) ?_
  refine lv_iconst (v := 5) hx hb dX1_copyFrom_85 (by decide) ?_
  refine va_copyi hx hb (hml.trans hl.1.symm) hown (hT _ mw_46) (hT _ mw_47) (hT _ mw_48) (hT _ mw_49) hK hP hD hS 12 13 10 11 rfl rfl rfl rfl rfl (by decide) (by decide) (by decide) (by decide) (by decide) (fun i _ => rfl) (Nat.le_of_ble_eq_true rfl) (Nat.le_of_ble_eq_true rfl) dX1_copyFrom_86 (fun H locs hP hD hS => ?_)
  have hP : va_P (dC, dI) vwCl [((g 28), .inr (1, [.ref (g 29), .ref (g 30), .ref (g 31), .ref (g 32), .ref (g 33), .ref (g 34), .ref (g 35), .ref (g 36), .ref (g 37), .ref (g 38), .ref (g 39)])), ((g 16), .inr (1, [.ref (g 17), .ref (g 18), .ref (g 19), .ref (g 20), .ref (g 21), .ref (g 22), .ref (g 23), .ref (g 24), .ref (g 25), .ref (g 26), .ref (g 27)])), ((g 17), .inl ((a 17), 11, .inl (fun _ => 0))), ((g 29), .inl ((a 29), 11, .inl (fun _ => 0))), ((g 18), .inl ((a 18), 6, .inl (fun _ => 0))), ((g 30), .inl ((a 30), 6, .inl (fun _ => 0))), ((g 19), .inl ((a 19), 6, .inl (fun _ => 0))), ((g 31), .inl ((a 31), 6, .inl (fun _ => 0))), ((g 20), .inl ((a 20), 6, .inl (fun _ => 0))), ((g 32), .inl ((a 32), 6, .inl (fun _ => 0))), ((g 21), .inl ((a 21), 6, .inr (.inl (fun _ => 0)))), ((g 33), .inl ((a 33), 6, .inr (.inl (fun _ => 0)))), ((g 22), .inl ((a 22), 5, .inl (fun _ => 0))), ((g 34), .inl ((a 34), 5, .inl (va_cpy (fun _ => 0) (fun _ => 0) (0 : Int32).toNatClampNeg (0 : Int32).toNatClampNeg (5 : Int32).toNatClampNeg))), ((g 23), .inl ((a 23), 5, .inl (fun _ => 0))), ((g 35), .inl ((a 35), 5, .inl (fun _ => 0))), ((g 24), .inl ((a 24), 5, .inl (fun _ => 0))), ((g 36), .inl ((a 36), 5, .inl (fun _ => 0))), ((g 25), .inl ((a 25), 30, .inl (fun _ => 0))), ((g 37), .inl ((a 37), 30, .inl (fun _ => 0))), ((g 26), .inl ((a 26), 30, .inl (fun _ => 0))), ((g 38), .inl ((a 38), 30, .inl (fun _ => 0))), ((g 27), .inl ((a 27), 30, .inl (fun _ => 0))), ((g 39), .inl ((a 39), 30, .inl (fun _ => 0)))] H := hP
  have hD : va_D A [((g 28), .inr (1, [.ref (g 29), .ref (g 30), .ref (g 31), .ref (g 32), .ref (g 33), .ref (g 34), .ref (g 35), .ref (g 36), .ref (g 37), .ref (g 38), .ref (g 39)])), ((g 16), .inr (1, [.ref (g 17), .ref (g 18), .ref (g 19), .ref (g 20), .ref (g 21), .ref (g 22), .ref (g 23), .ref (g 24), .ref (g 25), .ref (g 26), .ref (g 27)])), ((g 17), .inl ((a 17), 11, .inl (fun _ => 0))), ((g 29), .inl ((a 29), 11, .inl (fun _ => 0))), ((g 18), .inl ((a 18), 6, .inl (fun _ => 0))), ((g 30), .inl ((a 30), 6, .inl (fun _ => 0))), ((g 19), .inl ((a 19), 6, .inl (fun _ => 0))), ((g 31), .inl ((a 31), 6, .inl (fun _ => 0))), ((g 20), .inl ((a 20), 6, .inl (fun _ => 0))), ((g 32), .inl ((a 32), 6, .inl (fun _ => 0))), ((g 21), .inl ((a 21), 6, .inr (.inl (fun _ => 0)))), ((g 33), .inl ((a 33), 6, .inr (.inl (fun _ => 0)))), ((g 22), .inl ((a 22), 5, .inl (fun _ => 0))), ((g 34), .inl ((a 34), 5, .inl (va_cpy (fun _ => 0) (fun _ => 0) (0 : Int32).toNatClampNeg (0 : Int32).toNatClampNeg (5 : Int32).toNatClampNeg))), ((g 23), .inl ((a 23), 5, .inl (fun _ => 0))), ((g 35), .inl ((a 35), 5, .inl (fun _ => 0))), ((g 24), .inl ((a 24), 5, .inl (fun _ => 0))), ((g 36), .inl ((a 36), 5, .inl (fun _ => 0))), ((g 25), .inl ((a 25), 30, .inl (fun _ => 0))), ((g 37), .inl ((a 37), 30, .inl (fun _ => 0))), ((g 26), .inl ((a 26), 30, .inl (fun _ => 0))), ((g 38), .inl ((a 38), 30, .inl (fun _ => 0))), ((g 27), .inl ((a 27), 30, .inl (fun _ => 0))), ((g 39), .inl ((a 39), 30, .inl (fun _ => 0)))] := hD
  rw [c_z] at hP hD
  refine lv_aload_n hx hb dX1_copyFrom_89 rfl (lv_at hl 1 rfl) ?_
  refine va_get (D := (dC, dI)) (ci := 1) (v := .ref (g 23)) (C := RX1) (T := TX1) (N := 11) hx hb hT inT1 hown hK hP 1 rfl rfl 6 (by decide) (hT _ mw_55) (fun _ h9 => h9) rfl dX1_copyFrom_90 ?_
  refine lv_iconst (v := 0) hx hb dX1_copyFrom_93 (by decide) ?_
  refine lv_aload_n hx hb dX1_copyFrom_94 rfl (lv_at hl 0 rfl) ?_
  refine va_get (D := (dC, dI)) (ci := 1) (v := .ref (g 35)) (C := RX1) (T := TX1) (N := 11) hx hb hT inT1 hown hK hP 0 rfl rfl 6 (by decide) (hT _ mw_55) (fun _ h9 => h9) rfl dX1_copyFrom_95 ?_
  refine lv_iconst (v := 0) hx hb dX1_copyFrom_98 (by decide) ?_
  refine lv_iconst (v := 5) hx hb dX1_copyFrom_99 (by decide) ?_
  refine va_copyi hx hb (hml.trans hl.1.symm) hown (hT _ mw_46) (hT _ mw_47) (hT _ mw_48) (hT _ mw_49) hK hP hD hS 14 15 12 13 rfl rfl rfl rfl rfl (by decide) (by decide) (by decide) (by decide) (by decide) (fun i _ => rfl) (Nat.le_of_ble_eq_true rfl) (Nat.le_of_ble_eq_true rfl) dX1_copyFrom_100 (fun H locs hP hD hS => ?_)
  have hP : va_P (dC, dI) vwCl [((g 28), .inr (1, [.ref (g 29), .ref (g 30), .ref (g 31), .ref (g 32), .ref (g 33), .ref (g 34), .ref (g 35), .ref (g 36), .ref (g 37), .ref (g 38), .ref (g 39)])), ((g 16), .inr (1, [.ref (g 17), .ref (g 18), .ref (g 19), .ref (g 20), .ref (g 21), .ref (g 22), .ref (g 23), .ref (g 24), .ref (g 25), .ref (g 26), .ref (g 27)])), ((g 17), .inl ((a 17), 11, .inl (fun _ => 0))), ((g 29), .inl ((a 29), 11, .inl (fun _ => 0))), ((g 18), .inl ((a 18), 6, .inl (fun _ => 0))), ((g 30), .inl ((a 30), 6, .inl (fun _ => 0))), ((g 19), .inl ((a 19), 6, .inl (fun _ => 0))), ((g 31), .inl ((a 31), 6, .inl (fun _ => 0))), ((g 20), .inl ((a 20), 6, .inl (fun _ => 0))), ((g 32), .inl ((a 32), 6, .inl (fun _ => 0))), ((g 21), .inl ((a 21), 6, .inr (.inl (fun _ => 0)))), ((g 33), .inl ((a 33), 6, .inr (.inl (fun _ => 0)))), ((g 22), .inl ((a 22), 5, .inl (fun _ => 0))), ((g 34), .inl ((a 34), 5, .inl (fun _ => 0))), ((g 23), .inl ((a 23), 5, .inl (fun _ => 0))), ((g 35), .inl ((a 35), 5, .inl (va_cpy (fun _ => 0) (fun _ => 0) (0 : Int32).toNatClampNeg (0 : Int32).toNatClampNeg (5 : Int32).toNatClampNeg))), ((g 24), .inl ((a 24), 5, .inl (fun _ => 0))), ((g 36), .inl ((a 36), 5, .inl (fun _ => 0))), ((g 25), .inl ((a 25), 30, .inl (fun _ => 0))), ((g 37), .inl ((a 37), 30, .inl (fun _ => 0))), ((g 26), .inl ((a 26), 30, .inl (fun _ => 0))), ((g 38), .inl ((a 38), 30, .inl (fun _ => 0))), ((g 27), .inl ((a 27), 30, .inl (fun _ => 0))), ((g 39), .inl ((a 39), 30, .inl (fun _ => 0)))] H := hP
  have hD : va_D A [((g 28), .inr (1, [.ref (g 29), .ref (g 30), .ref (g 31), .ref (g 32), .ref (g 33), .ref (g 34), .ref (g 35), .ref (g 36), .ref (g 37), .ref (g 38), .ref (g 39)])), ((g 16), .inr (1, [.ref (g 17), .ref (g 18), .ref (g 19), .ref (g 20), .ref (g 21), .ref (g 22), .ref (g 23), .ref (g 24), .ref (g 25), .ref (g 26), .ref (g 27)])), ((g 17), .inl ((a 17), 11, .inl (fun _ => 0))), ((g 29), .inl ((a 29), 11, .inl (fun _ => 0))), ((g 18), .inl ((a 18), 6, .inl (fun _ => 0))), ((g 30), .inl ((a 30), 6, .inl (fun _ => 0))), ((g 19), .inl ((a 19), 6, .inl (fun _ => 0))), ((g 31), .inl ((a 31), 6, .inl (fun _ => 0))), ((g 20), .inl ((a 20), 6, .inl (fun _ => 0))), ((g 32), .inl ((a 32), 6, .inl (fun _ => 0))), ((g 21), .inl ((a 21), 6, .inr (.inl (fun _ => 0)))), ((g 33), .inl ((a 33), 6, .inr (.inl (fun _ => 0)))), ((g 22), .inl ((a 22), 5, .inl (fun _ => 0))), ((g 34), .inl ((a 34), 5, .inl (fun _ => 0))), ((g 23), .inl ((a 23), 5, .inl (fun _ => 0))), ((g 35), .inl ((a 35), 5, .inl (va_cpy (fun _ => 0) (fun _ => 0) (0 : Int32).toNatClampNeg (0 : Int32).toNatClampNeg (5 : Int32).toNatClampNeg))), ((g 24), .inl ((a 24), 5, .inl (fun _ => 0))), ((g 36), .inl ((a 36), 5, .inl (fun _ => 0))), ((g 25), .inl ((a 25), 30, .inl (fun _ => 0))), ((g 37), .inl ((a 37), 30, .inl (fun _ => 0))), ((g 26), .inl ((a 26), 30, .inl (fun _ => 0))), ((g 38), .inl ((a 38), 30, .inl (fun _ => 0))), ((g 27), .inl ((a 27), 30, .inl (fun _ => 0))), ((g 39), .inl ((a 39), 30, .inl (fun _ => 0)))] := hD
  rw [c_z] at hP hD
  refine lv_aload_n hx hb dX1_copyFrom_103 rfl (lv_at hl 1 rfl) ?_
  refine va_get (D := (dC, dI)) (ci := 1) (v := .ref (g 24)) (C := RX1) (T := TX1) (N := 11) hx hb hT inT1 hown hK hP 1 rfl rfl 7 (by decide) (hT _ mw_56) (fun _ h9 => h9) rfl dX1_copyFrom_104 ?_
  refine lv_iconst (v := 0) hx hb dX1_copyFrom_107 (by decide) ?_
  refine lv_aload_n hx hb dX1_copyFrom_108 rfl (lv_at hl 0 rfl) ?_
  refine va_get (D := (dC, dI)) (ci := 1) (v := .ref (g 36)) (C := RX1) (T := TX1) (N := 11) hx hb hT inT1 hown hK hP 0 rfl rfl 7 (by decide) (hT _ mw_56) (fun _ h9 => h9) rfl dX1_copyFrom_109 ?_
  refine lv_iconst (v := 0) hx hb dX1_copyFrom_112 (by decide) ?_
  refine lv_iconst (v := 5) hx hb dX1_copyFrom_113 (by decide) ?_
  refine va_copyi hx hb (hml.trans hl.1.symm) hown (hT _ mw_46) (hT _ mw_47) (hT _ mw_48) (hT _ mw_49) hK hP hD hS 16 17 14 15 rfl rfl rfl rfl rfl (by decide) (by decide) (by decide) (by decide) (by decide) (fun i _ => rfl) (Nat.le_of_ble_eq_true rfl) (Nat.le_of_ble_eq_true rfl) dX1_copyFrom_114 (fun H locs hP hD hS => ?_)
  have hP : va_P (dC, dI) vwCl [((g 28), .inr (1, [.ref (g 29), .ref (g 30), .ref (g 31), .ref (g 32), .ref (g 33), .ref (g 34), .ref (g 35), .ref (g 36), .ref (g 37), .ref (g 38), .ref (g 39)])), ((g 16), .inr (1, [.ref (g 17), .ref (g 18), .ref (g 19), .ref (g 20), .ref (g 21), .ref (g 22), .ref (g 23), .ref (g 24), .ref (g 25), .ref (g 26), .ref (g 27)])), ((g 17), .inl ((a 17), 11, .inl (fun _ => 0))), ((g 29), .inl ((a 29), 11, .inl (fun _ => 0))), ((g 18), .inl ((a 18), 6, .inl (fun _ => 0))), ((g 30), .inl ((a 30), 6, .inl (fun _ => 0))), ((g 19), .inl ((a 19), 6, .inl (fun _ => 0))), ((g 31), .inl ((a 31), 6, .inl (fun _ => 0))), ((g 20), .inl ((a 20), 6, .inl (fun _ => 0))), ((g 32), .inl ((a 32), 6, .inl (fun _ => 0))), ((g 21), .inl ((a 21), 6, .inr (.inl (fun _ => 0)))), ((g 33), .inl ((a 33), 6, .inr (.inl (fun _ => 0)))), ((g 22), .inl ((a 22), 5, .inl (fun _ => 0))), ((g 34), .inl ((a 34), 5, .inl (fun _ => 0))), ((g 23), .inl ((a 23), 5, .inl (fun _ => 0))), ((g 35), .inl ((a 35), 5, .inl (fun _ => 0))), ((g 24), .inl ((a 24), 5, .inl (fun _ => 0))), ((g 36), .inl ((a 36), 5, .inl (va_cpy (fun _ => 0) (fun _ => 0) (0 : Int32).toNatClampNeg (0 : Int32).toNatClampNeg (5 : Int32).toNatClampNeg))), ((g 25), .inl ((a 25), 30, .inl (fun _ => 0))), ((g 37), .inl ((a 37), 30, .inl (fun _ => 0))), ((g 26), .inl ((a 26), 30, .inl (fun _ => 0))), ((g 38), .inl ((a 38), 30, .inl (fun _ => 0))), ((g 27), .inl ((a 27), 30, .inl (fun _ => 0))), ((g 39), .inl ((a 39), 30, .inl (fun _ => 0)))] H := hP
  have hD : va_D A [((g 28), .inr (1, [.ref (g 29), .ref (g 30), .ref (g 31), .ref (g 32), .ref (g 33), .ref (g 34), .ref (g 35), .ref (g 36), .ref (g 37), .ref (g 38), .ref (g 39)])), ((g 16), .inr (1, [.ref (g 17), .ref (g 18), .ref (g 19), .ref (g 20), .ref (g 21), .ref (g 22), .ref (g 23), .ref (g 24), .ref (g 25), .ref (g 26), .ref (g 27)])), ((g 17), .inl ((a 17), 11, .inl (fun _ => 0))), ((g 29), .inl ((a 29), 11, .inl (fun _ => 0))), ((g 18), .inl ((a 18), 6, .inl (fun _ => 0))), ((g 30), .inl ((a 30), 6, .inl (fun _ => 0))), ((g 19), .inl ((a 19), 6, .inl (fun _ => 0))), ((g 31), .inl ((a 31), 6, .inl (fun _ => 0))), ((g 20), .inl ((a 20), 6, .inl (fun _ => 0))), ((g 32), .inl ((a 32), 6, .inl (fun _ => 0))), ((g 21), .inl ((a 21), 6, .inr (.inl (fun _ => 0)))), ((g 33), .inl ((a 33), 6, .inr (.inl (fun _ => 0)))), ((g 22), .inl ((a 22), 5, .inl (fun _ => 0))), ((g 34), .inl ((a 34), 5, .inl (fun _ => 0))), ((g 23), .inl ((a 23), 5, .inl (fun _ => 0))), ((g 35), .inl ((a 35), 5, .inl (fun _ => 0))), ((g 24), .inl ((a 24), 5, .inl (fun _ => 0))), ((g 36), .inl ((a 36), 5, .inl (va_cpy (fun _ => 0) (fun _ => 0) (0 : Int32).toNatClampNeg (0 : Int32).toNatClampNeg (5 : Int32).toNatClampNeg))), ((g 25), .inl ((a 25), 30, .inl (fun _ => 0))), ((g 37), .inl ((a 37), 30, .inl (fun _ => 0))), ((g 26), .inl ((a 26), 30, .inl (fun _ => 0))), ((g 38), .inl ((a 38), 30, .inl (fun _ => 0))), ((g 27), .inl ((a 27), 30, .inl (fun _ => 0))), ((g 39), .inl ((a 39), 30, .inl (fun _ => 0)))] := hD
  rw [c_z] at hP hD
  refine lv_aload_n hx hb dX1_copyFrom_117 rfl (lv_at hl 1 rfl) ?_
  refine va_get (D := (dC, dI)) (ci := 1) (v := .ref (g 25)) (C := RX1) (T := TX1) (N := 11) hx hb hT inT1 hown hK hP 1 rfl rfl 8 (by decide) (hT _ mw_57) (fun _ h9 => h9) rfl dX1_copyFrom_118 ?_
  refine lv_iconst (v := 0) hx hb dX1_copyFrom_121 (by decide) ?_
  refine lv_aload_n hx hb dX1_copyFrom_122 rfl (lv_at hl 0 rfl) ?_
  refine va_get (D := (dC, dI)) (ci := 1) (v := .ref (g 37)) (C := RX1) (T := TX1) (N := 11) hx hb hT inT1 hown hK hP 0 rfl rfl 8 (by decide) (hT _ mw_57) (fun _ h9 => h9) rfl dX1_copyFrom_123 ?_
  refine lv_iconst (v := 0) hx hb dX1_copyFrom_126 (by decide) ?_
  refine lv_bipush (v := 30) hx hb dX1_copyFrom_127 (by decide) ?_
  refine va_copyi hx hb (hml.trans hl.1.symm) hown (hT _ mw_46) (hT _ mw_47) (hT _ mw_48) (hT _ mw_49) hK hP hD hS 18 19 16 17 rfl rfl rfl rfl rfl (by decide) (by decide) (by decide) (by decide) (by decide) (fun i _ => rfl) (Nat.le_of_ble_eq_true rfl) (Nat.le_of_ble_eq_true rfl) dX1_copyFrom_129 (fun H locs hP hD hS => ?_)
  have hP : va_P (dC, dI) vwCl [((g 28), .inr (1, [.ref (g 29), .ref (g 30), .ref (g 31), .ref (g 32), .ref (g 33), .ref (g 34), .ref (g 35), .ref (g 36), .ref (g 37), .ref (g 38), .ref (g 39)])), ((g 16), .inr (1, [.ref (g 17), .ref (g 18), .ref (g 19), .ref (g 20), .ref (g 21), .ref (g 22), .ref (g 23), .ref (g 24), .ref (g 25), .ref (g 26), .ref (g 27)])), ((g 17), .inl ((a 17), 11, .inl (fun _ => 0))), ((g 29), .inl ((a 29), 11, .inl (fun _ => 0))), ((g 18), .inl ((a 18), 6, .inl (fun _ => 0))), ((g 30), .inl ((a 30), 6, .inl (fun _ => 0))), ((g 19), .inl ((a 19), 6, .inl (fun _ => 0))), ((g 31), .inl ((a 31), 6, .inl (fun _ => 0))), ((g 20), .inl ((a 20), 6, .inl (fun _ => 0))), ((g 32), .inl ((a 32), 6, .inl (fun _ => 0))), ((g 21), .inl ((a 21), 6, .inr (.inl (fun _ => 0)))), ((g 33), .inl ((a 33), 6, .inr (.inl (fun _ => 0)))), ((g 22), .inl ((a 22), 5, .inl (fun _ => 0))), ((g 34), .inl ((a 34), 5, .inl (fun _ => 0))), ((g 23), .inl ((a 23), 5, .inl (fun _ => 0))), ((g 35), .inl ((a 35), 5, .inl (fun _ => 0))), ((g 24), .inl ((a 24), 5, .inl (fun _ => 0))), ((g 36), .inl ((a 36), 5, .inl (fun _ => 0))), ((g 25), .inl ((a 25), 30, .inl (fun _ => 0))), ((g 37), .inl ((a 37), 30, .inl (va_cpy (fun _ => 0) (fun _ => 0) (0 : Int32).toNatClampNeg (0 : Int32).toNatClampNeg (30 : Int32).toNatClampNeg))), ((g 26), .inl ((a 26), 30, .inl (fun _ => 0))), ((g 38), .inl ((a 38), 30, .inl (fun _ => 0))), ((g 27), .inl ((a 27), 30, .inl (fun _ => 0))), ((g 39), .inl ((a 39), 30, .inl (fun _ => 0)))] H := hP
  have hD : va_D A [((g 28), .inr (1, [.ref (g 29), .ref (g 30), .ref (g 31), .ref (g 32), .ref (g 33), .ref (g 34), .ref (g 35), .ref (g 36), .ref (g 37), .ref (g 38), .ref (g 39)])), ((g 16), .inr (1, [.ref (g 17), .ref (g 18), .ref (g 19), .ref (g 20), .ref (g 21), .ref (g 22), .ref (g 23), .ref (g 24), .ref (g 25), .ref (g 26), .ref (g 27)])), ((g 17), .inl ((a 17), 11, .inl (fun _ => 0))), ((g 29), .inl ((a 29), 11, .inl (fun _ => 0))), ((g 18), .inl ((a 18), 6, .inl (fun _ => 0))), ((g 30), .inl ((a 30), 6, .inl (fun _ => 0))), ((g 19), .inl ((a 19), 6, .inl (fun _ => 0))), ((g 31), .inl ((a 31), 6, .inl (fun _ => 0))), ((g 20), .inl ((a 20), 6, .inl (fun _ => 0))), ((g 32), .inl ((a 32), 6, .inl (fun _ => 0))), ((g 21), .inl ((a 21), 6, .inr (.inl (fun _ => 0)))), ((g 33), .inl ((a 33), 6, .inr (.inl (fun _ => 0)))), ((g 22), .inl ((a 22), 5, .inl (fun _ => 0))), ((g 34), .inl ((a 34), 5, .inl (fun _ => 0))), ((g 23), .inl ((a 23), 5, .inl (fun _ => 0))), ((g 35), .inl ((a 35), 5, .inl (fun _ => 0))), ((g 24), .inl ((a 24), 5, .inl (fun _ => 0))), ((g 36), .inl ((a 36), 5, .inl (fun _ => 0))), ((g 25), .inl ((a 25), 30, .inl (fun _ => 0))), ((g 37), .inl ((a 37), 30, .inl (va_cpy (fun _ => 0) (fun _ => 0) (0 : Int32).toNatClampNeg (0 : Int32).toNatClampNeg (30 : Int32).toNatClampNeg))), ((g 26), .inl ((a 26), 30, .inl (fun _ => 0))), ((g 38), .inl ((a 38), 30, .inl (fun _ => 0))), ((g 27), .inl ((a 27), 30, .inl (fun _ => 0))), ((g 39), .inl ((a 39), 30, .inl (fun _ => 0)))] := hD
  rw [c_z] at hP hD
  refine lv_aload_n hx hb dX1_copyFrom_132 rfl (lv_at hl 1 rfl) ?_
  refine va_get (D := (dC, dI)) (ci := 1) (v := .ref (g 26)) (C := RX1) (T := TX1) (N := 11) hx hb hT inT1 hown hK hP 1 rfl rfl 9 (by decide) (hT _ mw_58) (fun _ h9 => h9) rfl dX1_copyFrom_133 ?_
  refine lv_iconst (v := 0) hx hb dX1_copyFrom_136 (by decide) ?_
  refine lv_aload_n hx hb dX1_copyFrom_137 rfl (lv_at hl 0 rfl) ?_
  refine va_get (D := (dC, dI)) (ci := 1) (v := .ref (g 38)) (C := RX1) (T := TX1) (N := 11) hx hb hT inT1 hown hK hP 0 rfl rfl 9 (by decide) (hT _ mw_58) (fun _ h9 => h9) rfl dX1_copyFrom_138 ?_
  refine lv_iconst (v := 0) hx hb dX1_copyFrom_141 (by decide) ?_
  refine lv_bipush (v := 30) hx hb dX1_copyFrom_142 (by decide) ?_
  refine va_copyi hx hb (hml.trans hl.1.symm) hown (hT _ mw_46) (hT _ mw_47) (hT _ mw_48) (hT _ mw_49) hK hP hD hS 20 21 18 19 rfl rfl rfl rfl rfl (by decide) (by decide) (by decide) (by decide) (by decide) (fun i _ => rfl) (Nat.le_of_ble_eq_true rfl) (Nat.le_of_ble_eq_true rfl) dX1_copyFrom_144 (fun H locs hP hD hS => ?_)
  have hP : va_P (dC, dI) vwCl [((g 28), .inr (1, [.ref (g 29), .ref (g 30), .ref (g 31), .ref (g 32), .ref (g 33), .ref (g 34), .ref (g 35), .ref (g 36), .ref (g 37), .ref (g 38), .ref (g 39)])), ((g 16), .inr (1, [.ref (g 17), .ref (g 18), .ref (g 19), .ref (g 20), .ref (g 21), .ref (g 22), .ref (g 23), .ref (g 24), .ref (g 25), .ref (g 26), .ref (g 27)])), ((g 17), .inl ((a 17), 11, .inl (fun _ => 0))), ((g 29), .inl ((a 29), 11, .inl (fun _ => 0))), ((g 18), .inl ((a 18), 6, .inl (fun _ => 0))), ((g 30), .inl ((a 30), 6, .inl (fun _ => 0))), ((g 19), .inl ((a 19), 6, .inl (fun _ => 0))), ((g 31), .inl ((a 31), 6, .inl (fun _ => 0))), ((g 20), .inl ((a 20), 6, .inl (fun _ => 0))), ((g 32), .inl ((a 32), 6, .inl (fun _ => 0))), ((g 21), .inl ((a 21), 6, .inr (.inl (fun _ => 0)))), ((g 33), .inl ((a 33), 6, .inr (.inl (fun _ => 0)))), ((g 22), .inl ((a 22), 5, .inl (fun _ => 0))), ((g 34), .inl ((a 34), 5, .inl (fun _ => 0))), ((g 23), .inl ((a 23), 5, .inl (fun _ => 0))), ((g 35), .inl ((a 35), 5, .inl (fun _ => 0))), ((g 24), .inl ((a 24), 5, .inl (fun _ => 0))), ((g 36), .inl ((a 36), 5, .inl (fun _ => 0))), ((g 25), .inl ((a 25), 30, .inl (fun _ => 0))), ((g 37), .inl ((a 37), 30, .inl (fun _ => 0))), ((g 26), .inl ((a 26), 30, .inl (fun _ => 0))), ((g 38), .inl ((a 38), 30, .inl (va_cpy (fun _ => 0) (fun _ => 0) (0 : Int32).toNatClampNeg (0 : Int32).toNatClampNeg (30 : Int32).toNatClampNeg))), ((g 27), .inl ((a 27), 30, .inl (fun _ => 0))), ((g 39), .inl ((a 39), 30, .inl (fun _ => 0)))] H := hP
  have hD : va_D A [((g 28), .inr (1, [.ref (g 29), .ref (g 30), .ref (g 31), .ref (g 32), .ref (g 33), .ref (g 34), .ref (g 35), .ref (g 36), .ref (g 37), .ref (g 38), .ref (g 39)])), ((g 16), .inr (1, [.ref (g 17), .ref (g 18), .ref (g 19), .ref (g 20), .ref (g 21), .ref (g 22), .ref (g 23), .ref (g 24), .ref (g 25), .ref (g 26), .ref (g 27)])), ((g 17), .inl ((a 17), 11, .inl (fun _ => 0))), ((g 29), .inl ((a 29), 11, .inl (fun _ => 0))), ((g 18), .inl ((a 18), 6, .inl (fun _ => 0))), ((g 30), .inl ((a 30), 6, .inl (fun _ => 0))), ((g 19), .inl ((a 19), 6, .inl (fun _ => 0))), ((g 31), .inl ((a 31), 6, .inl (fun _ => 0))), ((g 20), .inl ((a 20), 6, .inl (fun _ => 0))), ((g 32), .inl ((a 32), 6, .inl (fun _ => 0))), ((g 21), .inl ((a 21), 6, .inr (.inl (fun _ => 0)))), ((g 33), .inl ((a 33), 6, .inr (.inl (fun _ => 0)))), ((g 22), .inl ((a 22), 5, .inl (fun _ => 0))), ((g 34), .inl ((a 34), 5, .inl (fun _ => 0))), ((g 23), .inl ((a 23), 5, .inl (fun _ => 0))), ((g 35), .inl ((a 35), 5, .inl (fun _ => 0))), ((g 24), .inl ((a 24), 5, .inl (fun _ => 0))), ((g 36), .inl ((a 36), 5, .inl (fun _ => 0))), ((g 25), .inl ((a 25), 30, .inl (fun _ => 0))), ((g 37), .inl ((a 37), 30, .inl (fun _ => 0))), ((g 26), .inl ((a 26), 30, .inl (fun _ => 0))), ((g 38), .inl ((a 38), 30, .inl (va_cpy (fun _ => 0) (fun _ => 0) (0 : Int32).toNatClampNeg (0 : Int32).toNatClampNeg (30 : Int32).toNatClampNeg))), ((g 27), .inl ((a 27), 30, .inl (fun _ => 0))), ((g 39), .inl ((a 39), 30, .inl (fun _ => 0)))] := hD
  rw [c_z] at hP hD
  refine lv_aload_n hx hb dX1_copyFrom_147 rfl (lv_at hl 1 rfl) ?_
  refine va_get (D := (dC, dI)) (ci := 1) (v := .ref (g 27)) (C := RX1) (T := TX1) (N := 11) hx hb hT inT1 hown hK hP 1 rfl rfl 10 (by decide) (hT _ mw_59) (fun _ h9 => h9) rfl dX1_copyFrom_148 ?_
  refine lv_iconst (v := 0) hx hb dX1_copyFrom_151 (by decide) ?_
  refine lv_aload_n hx hb dX1_copyFrom_152 rfl (lv_at hl 0 rfl) ?_
  refine va_get (D := (dC, dI)) (ci := 1) (v := .ref (g 39)) (C := RX1) (T := TX1) (N := 11) hx hb hT inT1 hown hK hP 0 rfl rfl 10 (by decide) (hT _ mw_59) (fun _ h9 => h9) rfl dX1_copyFrom_153 ?_
  refine lv_iconst (v := 0) hx hb dX1_copyFrom_156 (by decide) ?_
  refine lv_bipush (v := 30) hx hb dX1_copyFrom_157 (by decide) ?_
  refine va_copyi hx hb (hml.trans hl.1.symm) hown (hT _ mw_46) (hT _ mw_47) (hT _ mw_48) (hT _ mw_49) hK hP hD hS 22 23 20 21 rfl rfl rfl rfl rfl (by decide) (by decide) (by decide) (by decide) (by decide) (fun i _ => rfl) (Nat.le_of_ble_eq_true rfl) (Nat.le_of_ble_eq_true rfl) dX1_copyFrom_159 (fun H locs hP hD hS => ?_)
  have hP : va_P (dC, dI) vwCl [((g 28), .inr (1, [.ref (g 29), .ref (g 30), .ref (g 31), .ref (g 32), .ref (g 33), .ref (g 34), .ref (g 35), .ref (g 36), .ref (g 37), .ref (g 38), .ref (g 39)])), ((g 16), .inr (1, [.ref (g 17), .ref (g 18), .ref (g 19), .ref (g 20), .ref (g 21), .ref (g 22), .ref (g 23), .ref (g 24), .ref (g 25), .ref (g 26), .ref (g 27)])), ((g 17), .inl ((a 17), 11, .inl (fun _ => 0))), ((g 29), .inl ((a 29), 11, .inl (fun _ => 0))), ((g 18), .inl ((a 18), 6, .inl (fun _ => 0))), ((g 30), .inl ((a 30), 6, .inl (fun _ => 0))), ((g 19), .inl ((a 19), 6, .inl (fun _ => 0))), ((g 31), .inl ((a 31), 6, .inl (fun _ => 0))), ((g 20), .inl ((a 20), 6, .inl (fun _ => 0))), ((g 32), .inl ((a 32), 6, .inl (fun _ => 0))), ((g 21), .inl ((a 21), 6, .inr (.inl (fun _ => 0)))), ((g 33), .inl ((a 33), 6, .inr (.inl (fun _ => 0)))), ((g 22), .inl ((a 22), 5, .inl (fun _ => 0))), ((g 34), .inl ((a 34), 5, .inl (fun _ => 0))), ((g 23), .inl ((a 23), 5, .inl (fun _ => 0))), ((g 35), .inl ((a 35), 5, .inl (fun _ => 0))), ((g 24), .inl ((a 24), 5, .inl (fun _ => 0))), ((g 36), .inl ((a 36), 5, .inl (fun _ => 0))), ((g 25), .inl ((a 25), 30, .inl (fun _ => 0))), ((g 37), .inl ((a 37), 30, .inl (fun _ => 0))), ((g 26), .inl ((a 26), 30, .inl (fun _ => 0))), ((g 38), .inl ((a 38), 30, .inl (fun _ => 0))), ((g 27), .inl ((a 27), 30, .inl (fun _ => 0))), ((g 39), .inl ((a 39), 30, .inl (va_cpy (fun _ => 0) (fun _ => 0) (0 : Int32).toNatClampNeg (0 : Int32).toNatClampNeg (30 : Int32).toNatClampNeg)))] H := hP
  have hD : va_D A [((g 28), .inr (1, [.ref (g 29), .ref (g 30), .ref (g 31), .ref (g 32), .ref (g 33), .ref (g 34), .ref (g 35), .ref (g 36), .ref (g 37), .ref (g 38), .ref (g 39)])), ((g 16), .inr (1, [.ref (g 17), .ref (g 18), .ref (g 19), .ref (g 20), .ref (g 21), .ref (g 22), .ref (g 23), .ref (g 24), .ref (g 25), .ref (g 26), .ref (g 27)])), ((g 17), .inl ((a 17), 11, .inl (fun _ => 0))), ((g 29), .inl ((a 29), 11, .inl (fun _ => 0))), ((g 18), .inl ((a 18), 6, .inl (fun _ => 0))), ((g 30), .inl ((a 30), 6, .inl (fun _ => 0))), ((g 19), .inl ((a 19), 6, .inl (fun _ => 0))), ((g 31), .inl ((a 31), 6, .inl (fun _ => 0))), ((g 20), .inl ((a 20), 6, .inl (fun _ => 0))), ((g 32), .inl ((a 32), 6, .inl (fun _ => 0))), ((g 21), .inl ((a 21), 6, .inr (.inl (fun _ => 0)))), ((g 33), .inl ((a 33), 6, .inr (.inl (fun _ => 0)))), ((g 22), .inl ((a 22), 5, .inl (fun _ => 0))), ((g 34), .inl ((a 34), 5, .inl (fun _ => 0))), ((g 23), .inl ((a 23), 5, .inl (fun _ => 0))), ((g 35), .inl ((a 35), 5, .inl (fun _ => 0))), ((g 24), .inl ((a 24), 5, .inl (fun _ => 0))), ((g 36), .inl ((a 36), 5, .inl (fun _ => 0))), ((g 25), .inl ((a 25), 30, .inl (fun _ => 0))), ((g 37), .inl ((a 37), 30, .inl (fun _ => 0))), ((g 26), .inl ((a 26), 30, .inl (fun _ => 0))), ((g 38), .inl ((a 38), 30, .inl (fun _ => 0))), ((g 27), .inl ((a 27), 30, .inl (fun _ => 0))), ((g 39), .inl ((a 39), 30, .inl (va_cpy (fun _ => 0) (fun _ => 0) (0 : Int32).toNatClampNeg (0 : Int32).toNatClampNeg (30 : Int32).toNatClampNeg)))] := hD
  rw [c_z] at hP hD
  exact e_v hx hb hr hlocks hP hD hS (fun _ => 0) [0, 1, 2, 3, 4, 5, 6, 7, 8, 9, 10, 11, 12, 13, 14, 15, 16, 17, 18, 19, 20, 21, 22, 23] rfl rfl dX1_copyFrom_162
