set_option maxRecDepth 100000 in
set_option maxHeartbeats 4000000 in
theorem k_X9_without (l : Launch) (dC : Nat → ClassId) (dI : Nat → Nat → Nat) (g : Nat → Nat) (a : Nat → ClassId) (p0 : Int32)  : MI l dC dI yX9_without (Cond.code yX9_without cX9_without 2 (some .int)) ({ frames := 2, cells := 0, slots := 0, locals := 46 }) [.ref (g 0), .int p0] [((a 1), .int)] [((g 0), .inr (9, oM g 0 0 0 0 0 0 (-1))), ((g 1), .inl ((a 1), 68, .inl (fun _ => 0)))] (fun r : Int32 => r = (-2)) (fun f => []) := by
  refine m_of (Qc := fun A => QI dC dI A (fun r : Int32 => r = (-2)) (fun f => [])) (lv := [(0, .ref (g 0)), (1, .int p0)]) (by decide) (Nat.le_of_ble_eq_true rfl) rfl ?_
  intro p e s m below meth c A ls hx hb hr hml hT hown hlocks hname hP hK hD hS hA hl
  have hown : s.vm.findClass RX9 = some m.cls := hown
  refine lv_aload_n hx hb dX9_without_0 rfl (lv_at hl 0 rfl) ?_
  refine lv_iload_n hx hb dX9_without_1 rfl (lv_at hl 1 rfl) ?_
  refine c_Vi (C := RX9) (As := [.int p0]) (rest := []) (wr := []) (n := 1) ⟨hx, hb, hml, hown, hT⟩ (k_X9_isHand l dC dI g a p0) hK hP hD hS hA [0] rfl [0, 1] [] rfl rfl rfl rfl (by decide) rfl rfl mw_118 mw_119 mw_120 mw_19 mw_121 (by decide +kernel) ⟨Nat.le_of_ble_eq_true rfl, Nat.le_of_ble_eq_true rfl⟩ ⟨rfl, rfl⟩ rfl hl.1 (Nat.le_of_ble_eq_true rfl) rfl dX9_without_2 ⟨Nat.zero_le _, Nat.zero_le _⟩ (fun r f1 H locs er hP hD hS => ?_)
  have hP : va_P (dC, dI) vwCl [((g 0), .inr (9, oM g 0 0 0 0 0 0 (-1))), ((g 1), .inl ((a 1), 68, .inl (fun _ => 0)))] H := hP
  have hD : va_D A [((g 0), .inr (9, oM g 0 0 0 0 0 0 (-1))), ((g 1), .inl ((a 1), 68, .inl (fun _ => 0)))] := hD
  have er : r = 0 := er
  subst er
  refine lv_if_ne (tgt := 11) hx hb dX9_without_5 (by decide) (fun c2 => ?_) (fun c2 => ?_)
  · exact absurd c2 (by decide)
  · refine lv_bipush (v := (-2)) hx hb dX9_without_8 (by decide) ?_
    exact e_i hx hb hr hlocks hP hD hS (fun _ => 0) [] rfl rfl rfl dX9_without_10
set_option maxRecDepth 100000 in
set_option maxHeartbeats 4000000 in
theorem k_X8_roundRefusal (l : Launch) (dC : Nat → ClassId) (dI : Nat → Nat → Nat) (g : Nat → Nat) (a : Nat → ClassId)   : MI l dC dI yX8_roundRefusal (Cond.code yX8_roundRefusal cX8_roundRefusal 1 (some .int)) ({ frames := 1, cells := 0, slots := 0, locals := 20 }) [.ref (g 0)] [((a 17), .int)] [((g 0), .inr (8, [.ref (g 1), .ref (g 2), .ref (g 4), .ref (g 16), .ref (g 64), .ref (g 65), .ref (g 66), .ref (g 70), .ref (g 75), .ref (g 87), .ref (g 94), .int 0, .int 0, .int 0])), ((g 16), .inr (1, [.ref (g 17), .ref (g 18), .ref (g 19), .ref (g 20), .ref (g 21), .ref (g 22), .ref (g 23), .ref (g 24), .ref (g 25), .ref (g 26), .ref (g 27)])), ((g 17), .inl ((a 17), 11, .inl (fun _ => 0)))] (fun r : Int32 => r = (-2)) (fun f => [((g 0), .inr (8, [.ref (g 1), .ref (g 2), .ref (g 4), .ref (g 16), .ref (g 64), .ref (g 65), .ref (g 66), .ref (g 70), .ref (g 75), .ref (g 87), .ref (g 94), .int 0, .int 0, .int 0])), ((g 16), .inr (1, [.ref (g 17), .ref (g 18), .ref (g 19), .ref (g 20), .ref (g 21), .ref (g 22), .ref (g 23), .ref (g 24), .ref (g 25), .ref (g 26), .ref (g 27)])), ((g 17), .inl ((a 17), 11, .inl (fun _ => 0)))]) := by
  refine m_of (Qc := fun A => QI dC dI A (fun r : Int32 => r = (-2)) (fun f => [((g 0), .inr (8, [.ref (g 1), .ref (g 2), .ref (g 4), .ref (g 16), .ref (g 64), .ref (g 65), .ref (g 66), .ref (g 70), .ref (g 75), .ref (g 87), .ref (g 94), .int 0, .int 0, .int 0])), ((g 16), .inr (1, [.ref (g 17), .ref (g 18), .ref (g 19), .ref (g 20), .ref (g 21), .ref (g 22), .ref (g 23), .ref (g 24), .ref (g 25), .ref (g 26), .ref (g 27)])), ((g 17), .inl ((a 17), 11, .inl (fun _ => 0)))])) (lv := [(0, .ref (g 0))]) (by decide) (Nat.le_of_ble_eq_true rfl) rfl ?_
  intro p e s m below meth c A ls hx hb hr hml hT hown hlocks hname hP hK hD hS hA hl
  have hown : s.vm.findClass RX8 = some m.cls := hown
  refine lv_aload_n hx hb dX8_roundRefusal_0 rfl (lv_at hl 0 rfl) ?_
  refine va_get (D := (dC, dI)) (ci := 8) (v := .ref (g 16)) (C := RX8) (T := TX8) (N := 14) hx hb hT inT8 hown hK hP 0 rfl rfl 3 (by decide) (hT _ mw_45) (fun _ h9 => h9) rfl dX8_roundRefusal_1 ?_
  refine c_Vi (C := RX1) (As := []) (rest := []) (wr := [((g 0), .inr (8, [.ref (g 1), .ref (g 2), .ref (g 4), .ref (g 16), .ref (g 64), .ref (g 65), .ref (g 66), .ref (g 70), .ref (g 75), .ref (g 87), .ref (g 94), .int 0, .int 0, .int 0]))]) (n := 0) ⟨hx, hb, hml, hown, hT⟩ (k_X1_stands l dC dI g a ) hK hP hD hS hA [0] rfl [1, 2] [0] rfl rfl rfl rfl (by decide) rfl rfl mw_201 mw_202 mw_203 mw_27 mw_204 (by decide +kernel) ⟨Nat.le_of_ble_eq_true rfl, Nat.le_of_ble_eq_true rfl⟩ ⟨rfl, rfl⟩ rfl hl.1 (Nat.le_of_ble_eq_true rfl) rfl dX8_roundRefusal_4 ⟨Nat.zero_le _, Nat.zero_le _⟩ (fun r f1 H locs er hP hD hS => ?_)
  have hP : va_P (dC, dI) vwCl [((g 0), .inr (8, [.ref (g 1), .ref (g 2), .ref (g 4), .ref (g 16), .ref (g 64), .ref (g 65), .ref (g 66), .ref (g 70), .ref (g 75), .ref (g 87), .ref (g 94), .int 0, .int 0, .int 0])), ((g 16), .inr (1, [.ref (g 17), .ref (g 18), .ref (g 19), .ref (g 20), .ref (g 21), .ref (g 22), .ref (g 23), .ref (g 24), .ref (g 25), .ref (g 26), .ref (g 27)])), ((g 17), .inl ((a 17), 11, .inl (fun _ => 0)))] H := hP
  have hD : va_D A [((g 0), .inr (8, [.ref (g 1), .ref (g 2), .ref (g 4), .ref (g 16), .ref (g 64), .ref (g 65), .ref (g 66), .ref (g 70), .ref (g 75), .ref (g 87), .ref (g 94), .int 0, .int 0, .int 0])), ((g 16), .inr (1, [.ref (g 17), .ref (g 18), .ref (g 19), .ref (g 20), .ref (g 21), .ref (g 22), .ref (g 23), .ref (g 24), .ref (g 25), .ref (g 26), .ref (g 27)])), ((g 17), .inl ((a 17), 11, .inl (fun _ => 0)))] := hD
  have er : r = 0 := er
  subst er
  refine lv_if_ne (tgt := 13) hx hb dX8_roundRefusal_7 (by decide) (fun c2 => ?_) (fun c2 => ?_)
  · exact absurd c2 (by decide)
  · refine lv_bipush (v := (-2)) hx hb dX8_roundRefusal_10 (by decide) ?_
    exact e_i hx hb hr hlocks hP hD hS (fun _ => 0) [0, 1, 2] rfl rfl rfl dX8_roundRefusal_12
set_option maxRecDepth 100000 in
set_option maxHeartbeats 4000000 in
theorem k_X8_settles (l : Launch) (dC : Nat → ClassId) (dI : Nat → Nat → Nat) (g : Nat → Nat) (a : Nat → ClassId)   : MI l dC dI yX8_settles (Cond.code yX8_settles cX8_settles 2 (some .int)) ({ frames := 2, cells := 0, slots := 0, locals := 40 }) [.ref (g 0)] [((a 17), .int)] [((g 0), .inr (8, [.ref (g 1), .ref (g 2), .ref (g 4), .ref (g 16), .ref (g 64), .ref (g 65), .ref (g 66), .ref (g 70), .ref (g 75), .ref (g 87), .ref (g 94), .int 0, .int 0, .int 0])), ((g 16), .inr (1, [.ref (g 17), .ref (g 18), .ref (g 19), .ref (g 20), .ref (g 21), .ref (g 22), .ref (g 23), .ref (g 24), .ref (g 25), .ref (g 26), .ref (g 27)])), ((g 17), .inl ((a 17), 11, .inl (fun _ => 0)))] (fun r : Int32 => r = (-2)) (fun f => []) := by
  refine m_of (Qc := fun A => QI dC dI A (fun r : Int32 => r = (-2)) (fun f => [])) (lv := [(0, .ref (g 0))]) (by decide) (Nat.le_of_ble_eq_true rfl) rfl ?_
  intro p e s m below meth c A ls hx hb hr hml hT hown hlocks hname hP hK hD hS hA hl
  have hown : s.vm.findClass RX8 = some m.cls := hown
  refine lv_aload_n hx hb dX8_settles_0 rfl (lv_at hl 0 rfl) ?_
  refine c_Vi (C := RX8) (As := []) (rest := []) (wr := []) (n := 0) ⟨hx, hb, hml, hown, hT⟩ (k_X8_roundRefusal l dC dI g a ) hK hP hD hS hA [0] rfl [0, 1, 2] [] rfl rfl rfl rfl (by decide) rfl rfl mw_207 mw_208 mw_209 mw_69 mw_210 (by decide +kernel) ⟨Nat.le_of_ble_eq_true rfl, Nat.le_of_ble_eq_true rfl⟩ ⟨rfl, rfl⟩ rfl hl.1 (Nat.le_of_ble_eq_true rfl) rfl dX8_settles_1 ⟨Nat.zero_le _, Nat.zero_le _⟩ (fun r f1 H locs er hP hD hS => ?_)
  have hP : va_P (dC, dI) vwCl [((g 0), .inr (8, [.ref (g 1), .ref (g 2), .ref (g 4), .ref (g 16), .ref (g 64), .ref (g 65), .ref (g 66), .ref (g 70), .ref (g 75), .ref (g 87), .ref (g 94), .int 0, .int 0, .int 0])), ((g 16), .inr (1, [.ref (g 17), .ref (g 18), .ref (g 19), .ref (g 20), .ref (g 21), .ref (g 22), .ref (g 23), .ref (g 24), .ref (g 25), .ref (g 26), .ref (g 27)])), ((g 17), .inl ((a 17), 11, .inl (fun _ => 0)))] H := hP
  have hD : va_D A [((g 0), .inr (8, [.ref (g 1), .ref (g 2), .ref (g 4), .ref (g 16), .ref (g 64), .ref (g 65), .ref (g 66), .ref (g 70), .ref (g 75), .ref (g 87), .ref (g 94), .int 0, .int 0, .int 0])), ((g 16), .inr (1, [.ref (g 17), .ref (g 18), .ref (g 19), .ref (g 20), .ref (g 21), .ref (g 22), .ref (g 23), .ref (g 24), .ref (g 25), .ref (g 26), .ref (g 27)])), ((g 17), .inl ((a 17), 11, .inl (fun _ => 0)))] := hD
  have er : r = (-2) := er
  subst er
  refine lv_istore_n (lv' := [(1, .int (-2)), (0, .ref (g 0))]) hx hb dX8_settles_4 rfl hl (by decide) rfl (fun ls hl => ?_)
  refine lv_iload_n hx hb dX8_settles_5 rfl (lv_at hl 0 rfl) ?_
  refine lv_if_eq (tgt := 13) hx hb dX8_settles_6 (by decide) (fun c2 => ?_) (fun c2 => ?_)
  · exact absurd c2 (by decide)
  · refine lv_iload_n hx hb dX8_settles_9 rfl (lv_at hl 0 rfl) ?_
    refine lv_goto (tgt := 20) hx hb dX8_settles_10 (by decide) ?_
    exact e_i hx hb hr hlocks hP hD hS (fun _ => 0) [] rfl rfl rfl dX8_settles_20
set_option maxRecDepth 100000 in
set_option maxHeartbeats 4000000 in
theorem k_X9_hasRound (l : Launch) (dC : Nat → ClassId) (dI : Nat → Nat → Nat) (g : Nat → Nat) (a : Nat → ClassId)   : MI l dC dI yX9_hasRound (Cond.code yX9_hasRound cX9_hasRound 1 (some .boolean)) ({ frames := 1, cells := 0, slots := 0, locals := 20 }) [.ref (g 0)] [((a 1), .int)] [((g 0), .inr (9, oM g 0 0 0 0 0 0 (-1))), ((g 1), .inl ((a 1), 68, .inl (fun _ => 0)))] (fun r : Int32 => r = 0) (fun f => [((g 0), .inr (9, oM g 0 0 0 0 0 0 (-1))), ((g 1), .inl ((a 1), 68, .inl (fun _ => 0)))]) := by
  refine m_of (Qc := fun A => QI dC dI A (fun r : Int32 => r = 0) (fun f => [((g 0), .inr (9, oM g 0 0 0 0 0 0 (-1))), ((g 1), .inl ((a 1), 68, .inl (fun _ => 0)))])) (lv := [(0, .ref (g 0))]) (by decide) (Nat.le_of_ble_eq_true rfl) rfl ?_
  intro p e s m below meth c A ls hx hb hr hml hT hown hlocks hname hP hK hD hS hA hl
  have hown : s.vm.findClass RX9 = some m.cls := hown
  refine lv_aload_n hx hb dX9_hasRound_0 rfl (lv_at hl 0 rfl) ?_
  refine c_Vi (C := RX9) (As := []) (rest := []) (wr := []) (n := 0) ⟨hx, hb, hml, hown, hT⟩ (k_X9_isBrigade l dC dI g a ) hK hP hD hS hA [0] rfl [0, 1] [] rfl rfl rfl rfl (by decide) rfl rfl mw_126 mw_127 mw_128 mw_19 mw_129 (by decide +kernel) ⟨Nat.le_of_ble_eq_true rfl, Nat.le_of_ble_eq_true rfl⟩ ⟨rfl, rfl⟩ rfl hl.1 (Nat.le_of_ble_eq_true rfl) rfl dX9_hasRound_1 ⟨Nat.zero_le _, Nat.zero_le _⟩ (fun r f1 H locs er hP hD hS => ?_)
  have hP : va_P (dC, dI) vwCl [((g 0), .inr (9, oM g 0 0 0 0 0 0 (-1))), ((g 1), .inl ((a 1), 68, .inl (fun _ => 0)))] H := hP
  have hD : va_D A [((g 0), .inr (9, oM g 0 0 0 0 0 0 (-1))), ((g 1), .inl ((a 1), 68, .inl (fun _ => 0)))] := hD
  have er : r = 0 := er
  subst er
  refine lv_if_eq (tgt := 18) hx hb dX9_hasRound_4 (by decide) (fun c2 => ?_) (fun c2 => ?_)
  · refine lv_iconst (v := 0) hx hb dX9_hasRound_18 (by decide) ?_
    exact e_z hx hb hr hlocks hP hD hS (fun _ => 0) [0, 1] rfl rfl rfl rfl dX9_hasRound_19
  · exact absurd c2 (by decide)
set_option maxRecDepth 100000 in
set_option maxHeartbeats 4000000 in
theorem k_X9_settles (l : Launch) (dC : Nat → ClassId) (dI : Nat → Nat → Nat) (g : Nat → Nat) (a : Nat → ClassId)   : MI l dC dI yX9_settles (Cond.code yX9_settles cX9_settles 1 (some .int)) ({ frames := 2, cells := 0, slots := 0, locals := 40 }) [.ref (g 0)] [((a 1), .int)] [((g 0), .inr (9, oM g 0 0 0 0 0 0 (-1))), ((g 1), .inl ((a 1), 68, .inl (fun _ => 0)))] (fun r : Int32 => r = (-2)) (fun f => []) := by
  refine m_of (Qc := fun A => QI dC dI A (fun r : Int32 => r = (-2)) (fun f => [])) (lv := [(0, .ref (g 0))]) (by decide) (Nat.le_of_ble_eq_true rfl) rfl ?_
  intro p e s m below meth c A ls hx hb hr hml hT hown hlocks hname hP hK hD hS hA hl
  have hown : s.vm.findClass RX9 = some m.cls := hown
  refine lv_aload_n hx hb dX9_settles_0 rfl (lv_at hl 0 rfl) ?_
  refine c_Vi (C := RX9) (As := []) (rest := []) (wr := []) (n := 0) ⟨hx, hb, hml, hown, hT⟩ (k_X9_hasRound l dC dI g a ) hK hP hD hS hA [0] rfl [0, 1] [] rfl rfl rfl rfl (by decide) rfl rfl mw_211 mw_212 mw_213 mw_19 mw_214 (by decide +kernel) ⟨Nat.le_of_ble_eq_true rfl, Nat.le_of_ble_eq_true rfl⟩ ⟨rfl, rfl⟩ rfl hl.1 (Nat.le_of_ble_eq_true rfl) rfl dX9_settles_1 ⟨Nat.zero_le _, Nat.zero_le _⟩ (fun r f1 H locs er hP hD hS => ?_)
  have hP : va_P (dC, dI) vwCl [((g 0), .inr (9, oM g 0 0 0 0 0 0 (-1))), ((g 1), .inl ((a 1), 68, .inl (fun _ => 0)))] H := hP
  have hD : va_D A [((g 0), .inr (9, oM g 0 0 0 0 0 0 (-1))), ((g 1), .inl ((a 1), 68, .inl (fun _ => 0)))] := hD
  have er : r = 0 := er
  subst er
  refine lv_if_ne (tgt := 21) hx hb dX9_settles_4 (by decide) (fun c2 => ?_) (fun c2 => ?_)
  · exact absurd c2 (by decide)
  · refine lv_aload_n hx hb dX9_settles_7 rfl (lv_at hl 0 rfl) ?_
    refine c_Vi (C := RX9) (As := []) (rest := []) (wr := []) (n := 0) ⟨hx, hb, hml, hown, hT⟩ (k_X9_isBrigade l dC dI g a ) hK hP hD hS hA [0] rfl [0, 1] [] rfl rfl rfl rfl (by decide) rfl rfl mw_126 mw_127 mw_128 mw_19 mw_129 (by decide +kernel) ⟨Nat.le_of_ble_eq_true rfl, Nat.le_of_ble_eq_true rfl⟩ ⟨rfl, rfl⟩ rfl hl.1 (Nat.le_of_ble_eq_true rfl) rfl dX9_settles_8 ⟨Nat.zero_le _, Nat.zero_le _⟩ (fun r f3 H locs er hP hD hS => ?_)
    have hP : va_P (dC, dI) vwCl [((g 0), .inr (9, oM g 0 0 0 0 0 0 (-1))), ((g 1), .inl ((a 1), 68, .inl (fun _ => 0)))] H := hP
    have hD : va_D A [((g 0), .inr (9, oM g 0 0 0 0 0 0 (-1))), ((g 1), .inl ((a 1), 68, .inl (fun _ => 0)))] := hD
    have er : r = 0 := er
    subst er
    refine lv_if_eq (tgt := 18) hx hb dX9_settles_11 (by decide) (fun c4 => ?_) (fun c4 => ?_)
    · refine lv_bipush (v := (-2)) hx hb dX9_settles_18 (by decide) ?_
      exact e_i hx hb hr hlocks hP hD hS (fun _ => 0) [] rfl rfl rfl dX9_settles_20
    · exact absurd c4 (by decide)
set_option maxRecDepth 100000 in
set_option maxHeartbeats 4000000 in
theorem k_X8_round (l : Launch) (dC : Nat → ClassId) (dI : Nat → Nat → Nat) (g : Nat → Nat) (a : Nat → ClassId)   : MI l dC dI yX8_round (Cond.code yX8_round cX8_round 2 (some .int)) ({ frames := 2, cells := 0, slots := 0, locals := 40 }) [.ref (g 0)] [((a 17), .int)] [((g 0), .inr (8, [.ref (g 1), .ref (g 2), .ref (g 4), .ref (g 16), .ref (g 64), .ref (g 65), .ref (g 66), .ref (g 70), .ref (g 75), .ref (g 87), .ref (g 94), .int 0, .int 0, .int 0])), ((g 16), .inr (1, [.ref (g 17), .ref (g 18), .ref (g 19), .ref (g 20), .ref (g 21), .ref (g 22), .ref (g 23), .ref (g 24), .ref (g 25), .ref (g 26), .ref (g 27)])), ((g 17), .inl ((a 17), 11, .inl (fun _ => 0)))] (fun r : Int32 => r = (-2)) (fun f => []) := by
  refine m_of (Qc := fun A => QI dC dI A (fun r : Int32 => r = (-2)) (fun f => [])) (lv := [(0, .ref (g 0))]) (by decide) (Nat.le_of_ble_eq_true rfl) rfl ?_
  intro p e s m below meth c A ls hx hb hr hml hT hown hlocks hname hP hK hD hS hA hl
  have hown : s.vm.findClass RX8 = some m.cls := hown
  refine lv_aload_n hx hb dX8_round_0 rfl (lv_at hl 0 rfl) ?_
  refine c_Vi (C := RX8) (As := []) (rest := []) (wr := []) (n := 0) ⟨hx, hb, hml, hown, hT⟩ (k_X8_roundRefusal l dC dI g a ) hK hP hD hS hA [0] rfl [0, 1, 2] [] rfl rfl rfl rfl (by decide) rfl rfl mw_207 mw_208 mw_209 mw_69 mw_210 (by decide +kernel) ⟨Nat.le_of_ble_eq_true rfl, Nat.le_of_ble_eq_true rfl⟩ ⟨rfl, rfl⟩ rfl hl.1 (Nat.le_of_ble_eq_true rfl) rfl dX8_round_1 ⟨Nat.zero_le _, Nat.zero_le _⟩ (fun r f1 H locs er hP hD hS => ?_)
  have hP : va_P (dC, dI) vwCl [((g 0), .inr (8, [.ref (g 1), .ref (g 2), .ref (g 4), .ref (g 16), .ref (g 64), .ref (g 65), .ref (g 66), .ref (g 70), .ref (g 75), .ref (g 87), .ref (g 94), .int 0, .int 0, .int 0])), ((g 16), .inr (1, [.ref (g 17), .ref (g 18), .ref (g 19), .ref (g 20), .ref (g 21), .ref (g 22), .ref (g 23), .ref (g 24), .ref (g 25), .ref (g 26), .ref (g 27)])), ((g 17), .inl ((a 17), 11, .inl (fun _ => 0)))] H := hP
  have hD : va_D A [((g 0), .inr (8, [.ref (g 1), .ref (g 2), .ref (g 4), .ref (g 16), .ref (g 64), .ref (g 65), .ref (g 66), .ref (g 70), .ref (g 75), .ref (g 87), .ref (g 94), .int 0, .int 0, .int 0])), ((g 16), .inr (1, [.ref (g 17), .ref (g 18), .ref (g 19), .ref (g 20), .ref (g 21), .ref (g 22), .ref (g 23), .ref (g 24), .ref (g 25), .ref (g 26), .ref (g 27)])), ((g 17), .inl ((a 17), 11, .inl (fun _ => 0)))] := hD
  have er : r = (-2) := er
  subst er
  refine lv_istore_n (lv' := [(1, .int (-2)), (0, .ref (g 0))]) hx hb dX8_round_4 rfl hl (by decide) rfl (fun ls hl => ?_)
  refine lv_iload_n hx hb dX8_round_5 rfl (lv_at hl 0 rfl) ?_
  refine lv_if_eq (tgt := 13) hx hb dX8_round_6 (by decide) (fun c2 => ?_) (fun c2 => ?_)
  · exact absurd c2 (by decide)
  · refine lv_iload_n hx hb dX8_round_9 rfl (lv_at hl 0 rfl) ?_
    refine lv_goto (tgt := 20) hx hb dX8_round_10 (by decide) ?_
    exact e_i hx hb hr hlocks hP hD hS (fun _ => 0) [] rfl rfl rfl dX8_round_20
set_option maxRecDepth 100000 in
set_option maxHeartbeats 4000000 in
theorem k_X9_round (l : Launch) (dC : Nat → ClassId) (dI : Nat → Nat → Nat) (g : Nat → Nat) (a : Nat → ClassId)   : MI l dC dI yX9_round (Cond.code yX9_round cX9_round 1 (some .int)) ({ frames := 2, cells := 0, slots := 0, locals := 40 }) [.ref (g 0)] [((a 1), .int)] [((g 0), .inr (9, oM g 0 0 0 0 0 0 (-1))), ((g 1), .inl ((a 1), 68, .inl (fun _ => 0)))] (fun r : Int32 => r = (-2)) (fun f => []) := by
  refine m_of (Qc := fun A => QI dC dI A (fun r : Int32 => r = (-2)) (fun f => [])) (lv := [(0, .ref (g 0))]) (by decide) (Nat.le_of_ble_eq_true rfl) rfl ?_
  intro p e s m below meth c A ls hx hb hr hml hT hown hlocks hname hP hK hD hS hA hl
  have hown : s.vm.findClass RX9 = some m.cls := hown
  refine lv_aload_n hx hb dX9_round_0 rfl (lv_at hl 0 rfl) ?_
  refine c_Vi (C := RX9) (As := []) (rest := []) (wr := []) (n := 0) ⟨hx, hb, hml, hown, hT⟩ (k_X9_hasRound l dC dI g a ) hK hP hD hS hA [0] rfl [0, 1] [] rfl rfl rfl rfl (by decide) rfl rfl mw_211 mw_212 mw_213 mw_19 mw_214 (by decide +kernel) ⟨Nat.le_of_ble_eq_true rfl, Nat.le_of_ble_eq_true rfl⟩ ⟨rfl, rfl⟩ rfl hl.1 (Nat.le_of_ble_eq_true rfl) rfl dX9_round_1 ⟨Nat.zero_le _, Nat.zero_le _⟩ (fun r f1 H locs er hP hD hS => ?_)
  have hP : va_P (dC, dI) vwCl [((g 0), .inr (9, oM g 0 0 0 0 0 0 (-1))), ((g 1), .inl ((a 1), 68, .inl (fun _ => 0)))] H := hP
  have hD : va_D A [((g 0), .inr (9, oM g 0 0 0 0 0 0 (-1))), ((g 1), .inl ((a 1), 68, .inl (fun _ => 0)))] := hD
  have er : r = 0 := er
  subst er
  refine lv_if_ne (tgt := 21) hx hb dX9_round_4 (by decide) (fun c2 => ?_) (fun c2 => ?_)
  · exact absurd c2 (by decide)
  · refine lv_aload_n hx hb dX9_round_7 rfl (lv_at hl 0 rfl) ?_
    refine c_Vi (C := RX9) (As := []) (rest := []) (wr := []) (n := 0) ⟨hx, hb, hml, hown, hT⟩ (k_X9_isBrigade l dC dI g a ) hK hP hD hS hA [0] rfl [0, 1] [] rfl rfl rfl rfl (by decide) rfl rfl mw_126 mw_127 mw_128 mw_19 mw_129 (by decide +kernel) ⟨Nat.le_of_ble_eq_true rfl, Nat.le_of_ble_eq_true rfl⟩ ⟨rfl, rfl⟩ rfl hl.1 (Nat.le_of_ble_eq_true rfl) rfl dX9_round_8 ⟨Nat.zero_le _, Nat.zero_le _⟩ (fun r f3 H locs er hP hD hS => ?_)
    have hP : va_P (dC, dI) vwCl [((g 0), .inr (9, oM g 0 0 0 0 0 0 (-1))), ((g 1), .inl ((a 1), 68, .inl (fun _ => 0)))] H := hP
    have hD : va_D A [((g 0), .inr (9, oM g 0 0 0 0 0 0 (-1))), ((g 1), .inl ((a 1), 68, .inl (fun _ => 0)))] := hD
    have er : r = 0 := er
    subst er
    refine lv_if_eq (tgt := 18) hx hb dX9_round_11 (by decide) (fun c4 => ?_) (fun c4 => ?_)
    · refine lv_bipush (v := (-2)) hx hb dX9_round_18 (by decide) ?_
      exact e_i hx hb hr hlocks hP hD hS (fun _ => 0) [] rfl rfl rfl dX9_round_20
    · exact absurd c4 (by decide)
set_option maxRecDepth 100000 in
set_option maxHeartbeats 4000000 in
theorem k_X8_isEither (l : Launch) (dC : Nat → ClassId) (dI : Nat → Nat → Nat) (g : Nat → Nat) (a : Nat → ClassId) (p0 : Int32)  : MI l dC dI yX8_isEither (Cond.code yX8_isEither cX8_isEither 1 (some .boolean)) ({ frames := 0, cells := 0, slots := 0, locals := 0 }) [.int p0] [] [] (fun _ : Int32 => True) (fun f => []) := by
  refine m_of (Qc := fun A => QI dC dI A (fun _ : Int32 => True) (fun f => [])) (lv := [(0, .int p0)]) (by decide) (Nat.le_of_ble_eq_true rfl) rfl ?_
  intro p e s m below meth c A ls hx hb hr hml hT hown hlocks hname hP hK hD hS hA hl
  have hown : s.vm.findClass RX8 = some m.cls := hown
  refine lv_iload_n hx hb dX8_isEither_0 rfl (lv_at hl 0 rfl) ?_
  refine lv_if_eq (tgt := 9) hx hb dX8_isEither_1 (by decide) (fun c1 => ?_) (fun c1 => ?_)
  · have c1 := i_eq p0.toInt 0 rfl (by decide) c1
    refine lv_iconst (v := 1) hx hb dX8_isEither_9 (by decide) ?_
    refine lv_goto (tgt := 14) hx hb dX8_isEither_10 (by decide) ?_
    exact e_z hx hb hr hlocks hP hD hS (fun _ => 0) [] rfl rfl trivial rfl dX8_isEither_14
  · have c1 := i_neq p0.toInt 0 rfl (by decide) c1
    refine lv_iload_n hx hb dX8_isEither_4 rfl (lv_at hl 0 rfl) ?_
    refine lv_iconst (v := 1) hx hb dX8_isEither_5 (by decide) ?_
    refine lv_icmp_ne (tgt := 13) hx hb dX8_isEither_6 (by decide) (fun c2 => ?_) (fun c2 => ?_)
    · have c2 := i_neq p0.toInt 1 rfl (by decide) c2
      refine lv_iconst (v := 0) hx hb dX8_isEither_13 (by decide) ?_
      exact e_z hx hb hr hlocks hP hD hS (fun _ => 0) [] rfl rfl trivial rfl dX8_isEither_14
    · have c2 := i_eq p0.toInt 1 rfl (by decide) c2
      refine lv_iconst (v := 1) hx hb dX8_isEither_9 (by decide) ?_
      refine lv_goto (tgt := 14) hx hb dX8_isEither_10 (by decide) ?_
      exact e_z hx hb hr hlocks hP hD hS (fun _ => 0) [] rfl rfl trivial rfl dX8_isEither_14
set_option maxRecDepth 100000 in
set_option maxHeartbeats 4000000 in
theorem k_X8_rate (l : Launch) (dC : Nat → ClassId) (dI : Nat → Nat → Nat) (g : Nat → Nat) (a : Nat → ClassId) (p0 : Int32)  : MI l dC dI yX8_rate (Cond.code yX8_rate cX8_rate 3 (some .int)) ({ frames := 2, cells := 0, slots := 0, locals := 40 }) [.ref (g 0), .int p0] [((a 17), .int)] [((g 0), .inr (8, [.ref (g 1), .ref (g 2), .ref (g 4), .ref (g 16), .ref (g 64), .ref (g 65), .ref (g 66), .ref (g 70), .ref (g 75), .ref (g 87), .ref (g 94), .int 0, .int 0, .int 0])), ((g 16), .inr (1, [.ref (g 17), .ref (g 18), .ref (g 19), .ref (g 20), .ref (g 21), .ref (g 22), .ref (g 23), .ref (g 24), .ref (g 25), .ref (g 26), .ref (g 27)])), ((g 17), .inl ((a 17), 11, .inl (fun _ => 0)))] (fun r : Int32 => r = (-2)) (fun f => []) := by
  refine m_of (Qc := fun A => QI dC dI A (fun r : Int32 => r = (-2)) (fun f => [])) (lv := [(0, .ref (g 0)), (1, .int p0)]) (by decide) (Nat.le_of_ble_eq_true rfl) rfl ?_
  intro p e s m below meth c A ls hx hb hr hml hT hown hlocks hname hP hK hD hS hA hl
  have hown : s.vm.findClass RX8 = some m.cls := hown
  refine lv_iload_n hx hb dX8_rate_0 rfl (lv_at hl 1 rfl) ?_
  refine c_Si (As := [.int p0]) (rest := []) (wr := [((g 0), .inr (8, [.ref (g 1), .ref (g 2), .ref (g 4), .ref (g 16), .ref (g 64), .ref (g 65), .ref (g 66), .ref (g 70), .ref (g 75), .ref (g 87), .ref (g 94), .int 0, .int 0, .int 0])), ((g 16), .inr (1, [.ref (g 17), .ref (g 18), .ref (g 19), .ref (g 20), .ref (g 21), .ref (g 22), .ref (g 23), .ref (g 24), .ref (g 25), .ref (g 26), .ref (g 27)])), ((g 17), .inl ((a 17), 11, .inl (fun _ => 0)))]) (n := 1) ⟨hx, hb, hml, hown, hT⟩ (k_X8_isEither l dC dI g a p0) hK hP hD hS hA [] rfl [] [0, 1, 2] rfl rfl rfl rfl (by decide) mw_215 mw_216 mw_69 mw_217 (by decide +kernel) ⟨Nat.le_of_ble_eq_true rfl, Nat.le_of_ble_eq_true rfl⟩ ⟨rfl, rfl⟩ rfl hl.1 (Nat.le_of_ble_eq_true rfl) rfl dX8_rate_1 ⟨Nat.zero_le _, Nat.zero_le _⟩ (fun r f1 H locs er hP hD hS => ?_)
  have hP : va_P (dC, dI) vwCl [((g 0), .inr (8, [.ref (g 1), .ref (g 2), .ref (g 4), .ref (g 16), .ref (g 64), .ref (g 65), .ref (g 66), .ref (g 70), .ref (g 75), .ref (g 87), .ref (g 94), .int 0, .int 0, .int 0])), ((g 16), .inr (1, [.ref (g 17), .ref (g 18), .ref (g 19), .ref (g 20), .ref (g 21), .ref (g 22), .ref (g 23), .ref (g 24), .ref (g 25), .ref (g 26), .ref (g 27)])), ((g 17), .inl ((a 17), 11, .inl (fun _ => 0)))] H := hP
  have hD : va_D A [((g 0), .inr (8, [.ref (g 1), .ref (g 2), .ref (g 4), .ref (g 16), .ref (g 64), .ref (g 65), .ref (g 66), .ref (g 70), .ref (g 75), .ref (g 87), .ref (g 94), .int 0, .int 0, .int 0])), ((g 16), .inr (1, [.ref (g 17), .ref (g 18), .ref (g 19), .ref (g 20), .ref (g 21), .ref (g 22), .ref (g 23), .ref (g 24), .ref (g 25), .ref (g 26), .ref (g 27)])), ((g 17), .inl ((a 17), 11, .inl (fun _ => 0)))] := hD
  refine lv_topi (fun r2 _ => ?_)
  refine lv_if_ne (tgt := 10) hx hb dX8_rate_4 (by decide) (fun c3 => ?_) (fun c3 => ?_)
  · have c3 := i_neq r2.toInt 0 rfl (by decide) c3
    refine lv_aload_n hx hb dX8_rate_10 rfl (lv_at hl 0 rfl) ?_
    refine c_Vi (C := RX8) (As := []) (rest := []) (wr := []) (n := 0) ⟨hx, hb, hml, hown, hT⟩ (k_X8_roundRefusal l dC dI g a ) hK hP hD hS hA [0] rfl [0, 1, 2] [] rfl rfl rfl rfl (by decide) rfl rfl mw_207 mw_208 mw_209 mw_69 mw_210 (by decide +kernel) ⟨Nat.le_of_ble_eq_true rfl, Nat.le_of_ble_eq_true rfl⟩ ⟨rfl, rfl⟩ rfl hl.1 (Nat.le_of_ble_eq_true rfl) rfl dX8_rate_11 ⟨Nat.zero_le _, Nat.zero_le _⟩ (fun r f4 H locs er hP hD hS => ?_)
    have hP : va_P (dC, dI) vwCl [((g 0), .inr (8, [.ref (g 1), .ref (g 2), .ref (g 4), .ref (g 16), .ref (g 64), .ref (g 65), .ref (g 66), .ref (g 70), .ref (g 75), .ref (g 87), .ref (g 94), .int 0, .int 0, .int 0])), ((g 16), .inr (1, [.ref (g 17), .ref (g 18), .ref (g 19), .ref (g 20), .ref (g 21), .ref (g 22), .ref (g 23), .ref (g 24), .ref (g 25), .ref (g 26), .ref (g 27)])), ((g 17), .inl ((a 17), 11, .inl (fun _ => 0)))] H := hP
    have hD : va_D A [((g 0), .inr (8, [.ref (g 1), .ref (g 2), .ref (g 4), .ref (g 16), .ref (g 64), .ref (g 65), .ref (g 66), .ref (g 70), .ref (g 75), .ref (g 87), .ref (g 94), .int 0, .int 0, .int 0])), ((g 16), .inr (1, [.ref (g 17), .ref (g 18), .ref (g 19), .ref (g 20), .ref (g 21), .ref (g 22), .ref (g 23), .ref (g 24), .ref (g 25), .ref (g 26), .ref (g 27)])), ((g 17), .inl ((a 17), 11, .inl (fun _ => 0)))] := hD
    have er : r = (-2) := er
    subst er
    refine lv_istore_n (lv' := [(2, .int (-2)), (0, .ref (g 0)), (1, .int p0)]) hx hb dX8_rate_14 rfl hl (by decide) rfl (fun ls hl => ?_)
    refine lv_iload_n hx hb dX8_rate_15 rfl (lv_at hl 0 rfl) ?_
    refine lv_if_eq (tgt := 23) hx hb dX8_rate_16 (by decide) (fun c5 => ?_) (fun c5 => ?_)
    · exact absurd c5 (by decide)
    · refine lv_iload_n hx hb dX8_rate_19 rfl (lv_at hl 0 rfl) ?_
      refine lv_goto (tgt := 44) hx hb dX8_rate_20 (by decide) ?_
      exact e_i hx hb hr hlocks hP hD hS (fun _ => 0) [] rfl rfl rfl dX8_rate_44
  · have c3 := i_eq r2.toInt 0 rfl (by decide) c3
    refine lv_bipush (v := (-2)) hx hb dX8_rate_7 (by decide) ?_
    exact e_i hx hb hr hlocks hP hD hS (fun _ => 0) [] rfl rfl rfl dX8_rate_9
set_option maxRecDepth 100000 in
set_option maxHeartbeats 4000000 in
theorem k_X9_rate (l : Launch) (dC : Nat → ClassId) (dI : Nat → Nat → Nat) (g : Nat → Nat) (a : Nat → ClassId) (p0 : Int32)  : MI l dC dI yX9_rate (Cond.code yX9_rate cX9_rate 2 (some .int)) ({ frames := 1, cells := 0, slots := 0, locals := 20 }) [.ref (g 0), .int p0] [((a 1), .int)] [((g 0), .inr (9, oM g 0 0 0 0 0 0 (-1))), ((g 1), .inl ((a 1), 68, .inl (fun _ => 0)))] (fun r : Int32 => r = (-2)) (fun f => []) := by
  refine m_of (Qc := fun A => QI dC dI A (fun r : Int32 => r = (-2)) (fun f => [])) (lv := [(0, .ref (g 0)), (1, .int p0)]) (by decide) (Nat.le_of_ble_eq_true rfl) rfl ?_
  intro p e s m below meth c A ls hx hb hr hml hT hown hlocks hname hP hK hD hS hA hl
  have hown : s.vm.findClass RX9 = some m.cls := hown
  refine lv_aload_n hx hb dX9_rate_0 rfl (lv_at hl 0 rfl) ?_
  refine c_Vi (C := RX9) (As := []) (rest := []) (wr := []) (n := 0) ⟨hx, hb, hml, hown, hT⟩ (k_X9_isBrigade l dC dI g a ) hK hP hD hS hA [0] rfl [0, 1] [] rfl rfl rfl rfl (by decide) rfl rfl mw_126 mw_127 mw_128 mw_19 mw_129 (by decide +kernel) ⟨Nat.le_of_ble_eq_true rfl, Nat.le_of_ble_eq_true rfl⟩ ⟨rfl, rfl⟩ rfl hl.1 (Nat.le_of_ble_eq_true rfl) rfl dX9_rate_1 ⟨Nat.zero_le _, Nat.zero_le _⟩ (fun r f1 H locs er hP hD hS => ?_)
  have hP : va_P (dC, dI) vwCl [((g 0), .inr (9, oM g 0 0 0 0 0 0 (-1))), ((g 1), .inl ((a 1), 68, .inl (fun _ => 0)))] H := hP
  have hD : va_D A [((g 0), .inr (9, oM g 0 0 0 0 0 0 (-1))), ((g 1), .inl ((a 1), 68, .inl (fun _ => 0)))] := hD
  have er : r = 0 := er
  subst er
  refine lv_if_eq (tgt := 17) hx hb dX9_rate_4 (by decide) (fun c2 => ?_) (fun c2 => ?_)
  · refine lv_bipush (v := (-2)) hx hb dX9_rate_17 (by decide) ?_
    exact e_i hx hb hr hlocks hP hD hS (fun _ => 0) [] rfl rfl rfl dX9_rate_19
  · exact absurd c2 (by decide)
set_option maxRecDepth 100000 in
set_option maxHeartbeats 4000000 in
theorem k_X8_slow (l : Launch) (dC : Nat → ClassId) (dI : Nat → Nat → Nat) (g : Nat → Nat) (a : Nat → ClassId)   : MI l dC dI yX8_slow (Cond.code yX8_slow cX8_slow 5 (some .int)) ({ frames := 1, cells := 0, slots := 0, locals := 20 }) [.ref (g 0)] [((a 17), .int)] [((g 0), .inr (8, [.ref (g 1), .ref (g 2), .ref (g 4), .ref (g 16), .ref (g 64), .ref (g 65), .ref (g 66), .ref (g 70), .ref (g 75), .ref (g 87), .ref (g 94), .int 0, .int 0, .int 0])), ((g 16), .inr (1, [.ref (g 17), .ref (g 18), .ref (g 19), .ref (g 20), .ref (g 21), .ref (g 22), .ref (g 23), .ref (g 24), .ref (g 25), .ref (g 26), .ref (g 27)])), ((g 17), .inl ((a 17), 11, .inl (fun _ => 0)))] (fun r : Int32 => r = (-2)) (fun f => []) := by
  refine m_of (Qc := fun A => QI dC dI A (fun r : Int32 => r = (-2)) (fun f => [])) (lv := [(0, .ref (g 0))]) (by decide) (Nat.le_of_ble_eq_true rfl) rfl ?_
  intro p e s m below meth c A ls hx hb hr hml hT hown hlocks hname hP hK hD hS hA hl
  have hown : s.vm.findClass RX8 = some m.cls := hown
  refine lv_aload_n hx hb dX8_slow_0 rfl (lv_at hl 0 rfl) ?_
  refine va_get (D := (dC, dI)) (ci := 8) (v := .ref (g 16)) (C := RX8) (T := TX8) (N := 14) hx hb hT inT8 hown hK hP 0 rfl rfl 3 (by decide) (hT _ mw_45) (fun _ h9 => h9) rfl dX8_slow_1 ?_
  refine c_Vi (C := RX1) (As := []) (rest := []) (wr := [((g 0), .inr (8, [.ref (g 1), .ref (g 2), .ref (g 4), .ref (g 16), .ref (g 64), .ref (g 65), .ref (g 66), .ref (g 70), .ref (g 75), .ref (g 87), .ref (g 94), .int 0, .int 0, .int 0]))]) (n := 0) ⟨hx, hb, hml, hown, hT⟩ (k_X1_stands l dC dI g a ) hK hP hD hS hA [0] rfl [1, 2] [0] rfl rfl rfl rfl (by decide) rfl rfl mw_201 mw_202 mw_203 mw_27 mw_204 (by decide +kernel) ⟨Nat.le_of_ble_eq_true rfl, Nat.le_of_ble_eq_true rfl⟩ ⟨rfl, rfl⟩ rfl hl.1 (Nat.le_of_ble_eq_true rfl) rfl dX8_slow_4 ⟨Nat.zero_le _, Nat.zero_le _⟩ (fun r f1 H locs er hP hD hS => ?_)
  have hP : va_P (dC, dI) vwCl [((g 0), .inr (8, [.ref (g 1), .ref (g 2), .ref (g 4), .ref (g 16), .ref (g 64), .ref (g 65), .ref (g 66), .ref (g 70), .ref (g 75), .ref (g 87), .ref (g 94), .int 0, .int 0, .int 0])), ((g 16), .inr (1, [.ref (g 17), .ref (g 18), .ref (g 19), .ref (g 20), .ref (g 21), .ref (g 22), .ref (g 23), .ref (g 24), .ref (g 25), .ref (g 26), .ref (g 27)])), ((g 17), .inl ((a 17), 11, .inl (fun _ => 0)))] H := hP
  have hD : va_D A [((g 0), .inr (8, [.ref (g 1), .ref (g 2), .ref (g 4), .ref (g 16), .ref (g 64), .ref (g 65), .ref (g 66), .ref (g 70), .ref (g 75), .ref (g 87), .ref (g 94), .int 0, .int 0, .int 0])), ((g 16), .inr (1, [.ref (g 17), .ref (g 18), .ref (g 19), .ref (g 20), .ref (g 21), .ref (g 22), .ref (g 23), .ref (g 24), .ref (g 25), .ref (g 26), .ref (g 27)])), ((g 17), .inl ((a 17), 11, .inl (fun _ => 0)))] := hD
  have er : r = 0 := er
  subst er
  refine lv_if_ne (tgt := 13) hx hb dX8_slow_7 (by decide) (fun c2 => ?_) (fun c2 => ?_)
  · exact absurd c2 (by decide)
  · refine lv_bipush (v := (-2)) hx hb dX8_slow_10 (by decide) ?_
    exact e_i hx hb hr hlocks hP hD hS (fun _ => 0) [] rfl rfl rfl dX8_slow_12
set_option maxRecDepth 100000 in
set_option maxHeartbeats 4000000 in
theorem k_X9_slow (l : Launch) (dC : Nat → ClassId) (dI : Nat → Nat → Nat) (g : Nat → Nat) (a : Nat → ClassId)   : MI l dC dI yX9_slow (Cond.code yX9_slow cX9_slow 6 (some .int)) ({ frames := 3, cells := 0, slots := 0, locals := 65 }) [.ref (g 0)] [((a 1), .int), ((a 15), .int), ((a 17), .int), ((a 21), .boolean), ((a 16), .boolean)] [((g 0), .inr (9, oM g 0 0 0 0 0 0 (-1))), ((g 1), .inl ((a 1), 68, .inl (fun _ => 0))), ((g 15), .inl ((a 15), 6, .inl (fun _ => 0))), ((g 17), .inl ((a 17), 6, .inl (fun _ => 0))), ((g 21), .inl ((a 21), 60, .inl (fun _ => 0))), ((g 16), .inl ((a 16), 360, .inl (fun _ => 0)))] (fun r : Int32 => r = (-2)) (fun f => []) := by
  refine m_of (Qc := fun A => QI dC dI A (fun r : Int32 => r = (-2)) (fun f => [])) (lv := [(0, .ref (g 0))]) (by decide) (Nat.le_of_ble_eq_true rfl) rfl ?_
  intro p e s m below meth c A ls hx hb hr hml hT hown hlocks hname hP hK hD hS hA hl
  have hown : s.vm.findClass RX9 = some m.cls := hown
  refine lv_aload_n hx hb dX9_slow_0 rfl (lv_at hl 0 rfl) ?_
  refine c_Vi (C := RX9) (As := []) (rest := []) (wr := []) (n := 0) ⟨hx, hb, hml, hown, hT⟩ (k_X9_asksBrigade l dC dI g a ) hK hP hD hS hA [0, 1, 2, 3, 4] rfl [0, 1, 2, 3, 4, 5] [] rfl rfl rfl rfl (by decide) rfl rfl mw_130 mw_131 mw_132 mw_19 mw_133 (by decide +kernel) ⟨Nat.le_of_ble_eq_true rfl, Nat.le_of_ble_eq_true rfl⟩ ⟨rfl, rfl⟩ rfl hl.1 (Nat.le_of_ble_eq_true rfl) rfl dX9_slow_1 ⟨Nat.zero_le _, Nat.zero_le _⟩ (fun r f1 H locs er hP hD hS => ?_)
  have hP : va_P (dC, dI) vwCl [((g 0), .inr (9, oM g 0 0 0 0 0 0 (-1))), ((g 1), .inl ((a 1), 68, .inl (fun _ => 0))), ((g 15), .inl ((a 15), 6, .inl (fun _ => 0))), ((g 21), .inl ((a 21), 60, .inl (fun _ => 0))), ((g 16), .inl ((a 16), 360, .inl (fun _ => 0)))] H := hP
  have hD : va_D A [((g 0), .inr (9, oM g 0 0 0 0 0 0 (-1))), ((g 1), .inl ((a 1), 68, .inl (fun _ => 0))), ((g 15), .inl ((a 15), 6, .inl (fun _ => 0))), ((g 21), .inl ((a 21), 60, .inl (fun _ => 0))), ((g 16), .inl ((a 16), 360, .inl (fun _ => 0)))] := hD
  have er : r = 0 := er
  subst er
  refine lv_if_ne (tgt := 10) hx hb dX9_slow_4 (by decide) (fun c2 => ?_) (fun c2 => ?_)
  · exact absurd c2 (by decide)
  · refine lv_bipush (v := (-2)) hx hb dX9_slow_7 (by decide) ?_
    exact e_i hx hb hr hlocks hP hD hS (fun _ => 0) [] rfl rfl rfl dX9_slow_9
set_option maxRecDepth 100000 in
set_option maxHeartbeats 4000000 in
theorem k_X8_enough (l : Launch) (dC : Nat → ClassId) (dI : Nat → Nat → Nat) (g : Nat → Nat) (a : Nat → ClassId)   : MI l dC dI yX8_enough (Cond.code yX8_enough cX8_enough 3 (some .int)) ({ frames := 1, cells := 0, slots := 0, locals := 20 }) [.ref (g 0)] [((a 17), .int)] [((g 0), .inr (8, [.ref (g 1), .ref (g 2), .ref (g 4), .ref (g 16), .ref (g 64), .ref (g 65), .ref (g 66), .ref (g 70), .ref (g 75), .ref (g 87), .ref (g 94), .int 0, .int 0, .int 0])), ((g 16), .inr (1, [.ref (g 17), .ref (g 18), .ref (g 19), .ref (g 20), .ref (g 21), .ref (g 22), .ref (g 23), .ref (g 24), .ref (g 25), .ref (g 26), .ref (g 27)])), ((g 17), .inl ((a 17), 11, .inl (fun _ => 0)))] (fun r : Int32 => r = (-2)) (fun f => []) := by
  refine m_of (Qc := fun A => QI dC dI A (fun r : Int32 => r = (-2)) (fun f => [])) (lv := [(0, .ref (g 0))]) (by decide) (Nat.le_of_ble_eq_true rfl) rfl ?_
  intro p e s m below meth c A ls hx hb hr hml hT hown hlocks hname hP hK hD hS hA hl
  have hown : s.vm.findClass RX8 = some m.cls := hown
  refine lv_aload_n hx hb dX8_enough_0 rfl (lv_at hl 0 rfl) ?_
  refine va_get (D := (dC, dI)) (ci := 8) (v := .ref (g 16)) (C := RX8) (T := TX8) (N := 14) hx hb hT inT8 hown hK hP 0 rfl rfl 3 (by decide) (hT _ mw_45) (fun _ h9 => h9) rfl dX8_enough_1 ?_
  refine c_Vi (C := RX1) (As := []) (rest := []) (wr := [((g 0), .inr (8, [.ref (g 1), .ref (g 2), .ref (g 4), .ref (g 16), .ref (g 64), .ref (g 65), .ref (g 66), .ref (g 70), .ref (g 75), .ref (g 87), .ref (g 94), .int 0, .int 0, .int 0]))]) (n := 0) ⟨hx, hb, hml, hown, hT⟩ (k_X1_stands l dC dI g a ) hK hP hD hS hA [0] rfl [1, 2] [0] rfl rfl rfl rfl (by decide) rfl rfl mw_201 mw_202 mw_203 mw_27 mw_204 (by decide +kernel) ⟨Nat.le_of_ble_eq_true rfl, Nat.le_of_ble_eq_true rfl⟩ ⟨rfl, rfl⟩ rfl hl.1 (Nat.le_of_ble_eq_true rfl) rfl dX8_enough_4 ⟨Nat.zero_le _, Nat.zero_le _⟩ (fun r f1 H locs er hP hD hS => ?_)
  have hP : va_P (dC, dI) vwCl [((g 0), .inr (8, [.ref (g 1), .ref (g 2), .ref (g 4), .ref (g 16), .ref (g 64), .ref (g 65), .ref (g 66), .ref (g 70), .ref (g 75), .ref (g 87), .ref (g 94), .int 0, .int 0, .int 0])), ((g 16), .inr (1, [.ref (g 17), .ref (g 18), .ref (g 19), .ref (g 20), .ref (g 21), .ref (g 22), .ref (g 23), .ref (g 24), .ref (g 25), .ref (g 26), .ref (g 27)])), ((g 17), .inl ((a 17), 11, .inl (fun _ => 0)))] H := hP
  have hD : va_D A [((g 0), .inr (8, [.ref (g 1), .ref (g 2), .ref (g 4), .ref (g 16), .ref (g 64), .ref (g 65), .ref (g 66), .ref (g 70), .ref (g 75), .ref (g 87), .ref (g 94), .int 0, .int 0, .int 0])), ((g 16), .inr (1, [.ref (g 17), .ref (g 18), .ref (g 19), .ref (g 20), .ref (g 21), .ref (g 22), .ref (g 23), .ref (g 24), .ref (g 25), .ref (g 26), .ref (g 27)])), ((g 17), .inl ((a 17), 11, .inl (fun _ => 0)))] := hD
  have er : r = 0 := er
  subst er
  refine lv_if_ne (tgt := 13) hx hb dX8_enough_7 (by decide) (fun c2 => ?_) (fun c2 => ?_)
  · exact absurd c2 (by decide)
  · refine lv_bipush (v := (-2)) hx hb dX8_enough_10 (by decide) ?_
    exact e_i hx hb hr hlocks hP hD hS (fun _ => 0) [] rfl rfl rfl dX8_enough_12
set_option maxRecDepth 100000 in
set_option maxHeartbeats 4000000 in
theorem k_X9_enough (l : Launch) (dC : Nat → ClassId) (dI : Nat → Nat → Nat) (g : Nat → Nat) (a : Nat → ClassId)   : MI l dC dI yX9_enough (Cond.code yX9_enough cX9_enough 2 (some .int)) ({ frames := 1, cells := 0, slots := 0, locals := 20 }) [.ref (g 0)] [((a 1), .int)] [((g 0), .inr (9, oM g 0 0 0 0 0 0 (-1))), ((g 1), .inl ((a 1), 68, .inl (fun _ => 0)))] (fun r : Int32 => r = (-2)) (fun f => []) := by
  refine m_of (Qc := fun A => QI dC dI A (fun r : Int32 => r = (-2)) (fun f => [])) (lv := [(0, .ref (g 0))]) (by decide) (Nat.le_of_ble_eq_true rfl) rfl ?_
  intro p e s m below meth c A ls hx hb hr hml hT hown hlocks hname hP hK hD hS hA hl
  have hown : s.vm.findClass RX9 = some m.cls := hown
  refine lv_aload_n hx hb dX9_enough_0 rfl (lv_at hl 0 rfl) ?_
  refine c_Vi (C := RX9) (As := []) (rest := []) (wr := []) (n := 0) ⟨hx, hb, hml, hown, hT⟩ (k_X9_isBrigade l dC dI g a ) hK hP hD hS hA [0] rfl [0, 1] [] rfl rfl rfl rfl (by decide) rfl rfl mw_126 mw_127 mw_128 mw_19 mw_129 (by decide +kernel) ⟨Nat.le_of_ble_eq_true rfl, Nat.le_of_ble_eq_true rfl⟩ ⟨rfl, rfl⟩ rfl hl.1 (Nat.le_of_ble_eq_true rfl) rfl dX9_enough_1 ⟨Nat.zero_le _, Nat.zero_le _⟩ (fun r f1 H locs er hP hD hS => ?_)
  have hP : va_P (dC, dI) vwCl [((g 0), .inr (9, oM g 0 0 0 0 0 0 (-1))), ((g 1), .inl ((a 1), 68, .inl (fun _ => 0)))] H := hP
  have hD : va_D A [((g 0), .inr (9, oM g 0 0 0 0 0 0 (-1))), ((g 1), .inl ((a 1), 68, .inl (fun _ => 0)))] := hD
  have er : r = 0 := er
  subst er
  refine lv_if_ne (tgt := 10) hx hb dX9_enough_4 (by decide) (fun c2 => ?_) (fun c2 => ?_)
  · exact absurd c2 (by decide)
  · refine lv_bipush (v := (-2)) hx hb dX9_enough_7 (by decide) ?_
    exact e_i hx hb hr hlocks hP hD hS (fun _ => 0) [] rfl rfl rfl dX9_enough_9
set_option maxRecDepth 100000 in
set_option maxHeartbeats 4000000 in
theorem k_X8_size (l : Launch) (dC : Nat → ClassId) (dI : Nat → Nat → Nat) (g : Nat → Nat) (a : Nat → ClassId)   : MI l dC dI yX8_size (Cond.code yX8_size cX8_size 4 (some .int)) ({ frames := 1, cells := 0, slots := 0, locals := 20 }) [.ref (g 0)] [((a 17), .int)] [((g 0), .inr (8, [.ref (g 1), .ref (g 2), .ref (g 4), .ref (g 16), .ref (g 64), .ref (g 65), .ref (g 66), .ref (g 70), .ref (g 75), .ref (g 87), .ref (g 94), .int 0, .int 0, .int 0])), ((g 16), .inr (1, [.ref (g 17), .ref (g 18), .ref (g 19), .ref (g 20), .ref (g 21), .ref (g 22), .ref (g 23), .ref (g 24), .ref (g 25), .ref (g 26), .ref (g 27)])), ((g 17), .inl ((a 17), 11, .inl (fun _ => 0)))] (fun r : Int32 => r = (-2)) (fun f => []) := by
  refine m_of (Qc := fun A => QI dC dI A (fun r : Int32 => r = (-2)) (fun f => [])) (lv := [(0, .ref (g 0))]) (by decide) (Nat.le_of_ble_eq_true rfl) rfl ?_
  intro p e s m below meth c A ls hx hb hr hml hT hown hlocks hname hP hK hD hS hA hl
  have hown : s.vm.findClass RX8 = some m.cls := hown
  refine lv_aload_n hx hb dX8_size_0 rfl (lv_at hl 0 rfl) ?_
  refine va_get (D := (dC, dI)) (ci := 8) (v := .ref (g 16)) (C := RX8) (T := TX8) (N := 14) hx hb hT inT8 hown hK hP 0 rfl rfl 3 (by decide) (hT _ mw_45) (fun _ h9 => h9) rfl dX8_size_1 ?_
  refine c_Vi (C := RX1) (As := []) (rest := []) (wr := [((g 0), .inr (8, [.ref (g 1), .ref (g 2), .ref (g 4), .ref (g 16), .ref (g 64), .ref (g 65), .ref (g 66), .ref (g 70), .ref (g 75), .ref (g 87), .ref (g 94), .int 0, .int 0, .int 0]))]) (n := 0) ⟨hx, hb, hml, hown, hT⟩ (k_X1_stands l dC dI g a ) hK hP hD hS hA [0] rfl [1, 2] [0] rfl rfl rfl rfl (by decide) rfl rfl mw_201 mw_202 mw_203 mw_27 mw_204 (by decide +kernel) ⟨Nat.le_of_ble_eq_true rfl, Nat.le_of_ble_eq_true rfl⟩ ⟨rfl, rfl⟩ rfl hl.1 (Nat.le_of_ble_eq_true rfl) rfl dX8_size_4 ⟨Nat.zero_le _, Nat.zero_le _⟩ (fun r f1 H locs er hP hD hS => ?_)
  have hP : va_P (dC, dI) vwCl [((g 0), .inr (8, [.ref (g 1), .ref (g 2), .ref (g 4), .ref (g 16), .ref (g 64), .ref (g 65), .ref (g 66), .ref (g 70), .ref (g 75), .ref (g 87), .ref (g 94), .int 0, .int 0, .int 0])), ((g 16), .inr (1, [.ref (g 17), .ref (g 18), .ref (g 19), .ref (g 20), .ref (g 21), .ref (g 22), .ref (g 23), .ref (g 24), .ref (g 25), .ref (g 26), .ref (g 27)])), ((g 17), .inl ((a 17), 11, .inl (fun _ => 0)))] H := hP
  have hD : va_D A [((g 0), .inr (8, [.ref (g 1), .ref (g 2), .ref (g 4), .ref (g 16), .ref (g 64), .ref (g 65), .ref (g 66), .ref (g 70), .ref (g 75), .ref (g 87), .ref (g 94), .int 0, .int 0, .int 0])), ((g 16), .inr (1, [.ref (g 17), .ref (g 18), .ref (g 19), .ref (g 20), .ref (g 21), .ref (g 22), .ref (g 23), .ref (g 24), .ref (g 25), .ref (g 26), .ref (g 27)])), ((g 17), .inl ((a 17), 11, .inl (fun _ => 0)))] := hD
  have er : r = 0 := er
  subst er
  refine lv_if_ne (tgt := 13) hx hb dX8_size_7 (by decide) (fun c2 => ?_) (fun c2 => ?_)
  · exact absurd c2 (by decide)
  · refine lv_bipush (v := (-2)) hx hb dX8_size_10 (by decide) ?_
    exact e_i hx hb hr hlocks hP hD hS (fun _ => 0) [] rfl rfl rfl dX8_size_12
set_option maxRecDepth 100000 in
set_option maxHeartbeats 4000000 in
theorem k_X9_size (l : Launch) (dC : Nat → ClassId) (dI : Nat → Nat → Nat) (g : Nat → Nat) (a : Nat → ClassId)   : MI l dC dI yX9_size (Cond.code yX9_size cX9_size 1 (some .int)) ({ frames := 1, cells := 0, slots := 0, locals := 20 }) [.ref (g 0)] [((a 1), .int)] [((g 0), .inr (9, oM g 0 0 0 0 0 0 (-1))), ((g 1), .inl ((a 1), 68, .inl (fun _ => 0)))] (fun r : Int32 => r = (-2)) (fun f => []) := by
  refine m_of (Qc := fun A => QI dC dI A (fun r : Int32 => r = (-2)) (fun f => [])) (lv := [(0, .ref (g 0))]) (by decide) (Nat.le_of_ble_eq_true rfl) rfl ?_
  intro p e s m below meth c A ls hx hb hr hml hT hown hlocks hname hP hK hD hS hA hl
  have hown : s.vm.findClass RX9 = some m.cls := hown
  refine lv_aload_n hx hb dX9_size_0 rfl (lv_at hl 0 rfl) ?_
  refine c_Vi (C := RX9) (As := []) (rest := []) (wr := []) (n := 0) ⟨hx, hb, hml, hown, hT⟩ (k_X9_isBrigade l dC dI g a ) hK hP hD hS hA [0] rfl [0, 1] [] rfl rfl rfl rfl (by decide) rfl rfl mw_126 mw_127 mw_128 mw_19 mw_129 (by decide +kernel) ⟨Nat.le_of_ble_eq_true rfl, Nat.le_of_ble_eq_true rfl⟩ ⟨rfl, rfl⟩ rfl hl.1 (Nat.le_of_ble_eq_true rfl) rfl dX9_size_1 ⟨Nat.zero_le _, Nat.zero_le _⟩ (fun r f1 H locs er hP hD hS => ?_)
  have hP : va_P (dC, dI) vwCl [((g 0), .inr (9, oM g 0 0 0 0 0 0 (-1))), ((g 1), .inl ((a 1), 68, .inl (fun _ => 0)))] H := hP
  have hD : va_D A [((g 0), .inr (9, oM g 0 0 0 0 0 0 (-1))), ((g 1), .inl ((a 1), 68, .inl (fun _ => 0)))] := hD
  have er : r = 0 := er
  subst er
  refine lv_if_ne (tgt := 10) hx hb dX9_size_4 (by decide) (fun c2 => ?_) (fun c2 => ?_)
  · exact absurd c2 (by decide)
  · refine lv_bipush (v := (-2)) hx hb dX9_size_7 (by decide) ?_
    exact e_i hx hb hr hlocks hP hD hS (fun _ => 0) [] rfl rfl rfl dX9_size_9
set_option maxRecDepth 100000 in
set_option maxHeartbeats 4000000 in
theorem k_X8_heat (l : Launch) (dC : Nat → ClassId) (dI : Nat → Nat → Nat) (g : Nat → Nat) (a : Nat → ClassId)   : MI l dC dI yX8_heat (Cond.code yX8_heat cX8_heat 3 (some .int)) ({ frames := 1, cells := 0, slots := 0, locals := 20 }) [.ref (g 0)] [((a 17), .int)] [((g 0), .inr (8, [.ref (g 1), .ref (g 2), .ref (g 4), .ref (g 16), .ref (g 64), .ref (g 65), .ref (g 66), .ref (g 70), .ref (g 75), .ref (g 87), .ref (g 94), .int 0, .int 0, .int 0])), ((g 16), .inr (1, [.ref (g 17), .ref (g 18), .ref (g 19), .ref (g 20), .ref (g 21), .ref (g 22), .ref (g 23), .ref (g 24), .ref (g 25), .ref (g 26), .ref (g 27)])), ((g 17), .inl ((a 17), 11, .inl (fun _ => 0)))] (fun r : Int32 => r = (-2)) (fun f => []) := by
  refine m_of (Qc := fun A => QI dC dI A (fun r : Int32 => r = (-2)) (fun f => [])) (lv := [(0, .ref (g 0))]) (by decide) (Nat.le_of_ble_eq_true rfl) rfl ?_
  intro p e s m below meth c A ls hx hb hr hml hT hown hlocks hname hP hK hD hS hA hl
  have hown : s.vm.findClass RX8 = some m.cls := hown
  refine lv_aload_n hx hb dX8_heat_0 rfl (lv_at hl 0 rfl) ?_
  refine va_get (D := (dC, dI)) (ci := 8) (v := .ref (g 16)) (C := RX8) (T := TX8) (N := 14) hx hb hT inT8 hown hK hP 0 rfl rfl 3 (by decide) (hT _ mw_45) (fun _ h9 => h9) rfl dX8_heat_1 ?_
  refine c_Vi (C := RX1) (As := []) (rest := []) (wr := [((g 0), .inr (8, [.ref (g 1), .ref (g 2), .ref (g 4), .ref (g 16), .ref (g 64), .ref (g 65), .ref (g 66), .ref (g 70), .ref (g 75), .ref (g 87), .ref (g 94), .int 0, .int 0, .int 0]))]) (n := 0) ⟨hx, hb, hml, hown, hT⟩ (k_X1_stands l dC dI g a ) hK hP hD hS hA [0] rfl [1, 2] [0] rfl rfl rfl rfl (by decide) rfl rfl mw_201 mw_202 mw_203 mw_27 mw_204 (by decide +kernel) ⟨Nat.le_of_ble_eq_true rfl, Nat.le_of_ble_eq_true rfl⟩ ⟨rfl, rfl⟩ rfl hl.1 (Nat.le_of_ble_eq_true rfl) rfl dX8_heat_4 ⟨Nat.zero_le _, Nat.zero_le _⟩ (fun r f1 H locs er hP hD hS => ?_)
  have hP : va_P (dC, dI) vwCl [((g 0), .inr (8, [.ref (g 1), .ref (g 2), .ref (g 4), .ref (g 16), .ref (g 64), .ref (g 65), .ref (g 66), .ref (g 70), .ref (g 75), .ref (g 87), .ref (g 94), .int 0, .int 0, .int 0])), ((g 16), .inr (1, [.ref (g 17), .ref (g 18), .ref (g 19), .ref (g 20), .ref (g 21), .ref (g 22), .ref (g 23), .ref (g 24), .ref (g 25), .ref (g 26), .ref (g 27)])), ((g 17), .inl ((a 17), 11, .inl (fun _ => 0)))] H := hP
  have hD : va_D A [((g 0), .inr (8, [.ref (g 1), .ref (g 2), .ref (g 4), .ref (g 16), .ref (g 64), .ref (g 65), .ref (g 66), .ref (g 70), .ref (g 75), .ref (g 87), .ref (g 94), .int 0, .int 0, .int 0])), ((g 16), .inr (1, [.ref (g 17), .ref (g 18), .ref (g 19), .ref (g 20), .ref (g 21), .ref (g 22), .ref (g 23), .ref (g 24), .ref (g 25), .ref (g 26), .ref (g 27)])), ((g 17), .inl ((a 17), 11, .inl (fun _ => 0)))] := hD
  have er : r = 0 := er
  subst er
  refine lv_if_ne (tgt := 13) hx hb dX8_heat_7 (by decide) (fun c2 => ?_) (fun c2 => ?_)
  · exact absurd c2 (by decide)
  · refine lv_bipush (v := (-2)) hx hb dX8_heat_10 (by decide) ?_
    exact e_i hx hb hr hlocks hP hD hS (fun _ => 0) [] rfl rfl rfl dX8_heat_12
set_option maxRecDepth 100000 in
set_option maxHeartbeats 4000000 in
theorem k_X9_heat (l : Launch) (dC : Nat → ClassId) (dI : Nat → Nat → Nat) (g : Nat → Nat) (a : Nat → ClassId)   : MI l dC dI yX9_heat (Cond.code yX9_heat cX9_heat 2 (some .int)) ({ frames := 3, cells := 0, slots := 0, locals := 65 }) [.ref (g 0)] [((a 1), .int), ((a 15), .int), ((a 17), .int), ((a 21), .boolean), ((a 16), .boolean)] [((g 0), .inr (9, oM g 0 0 0 0 0 0 (-1))), ((g 1), .inl ((a 1), 68, .inl (fun _ => 0))), ((g 15), .inl ((a 15), 6, .inl (fun _ => 0))), ((g 17), .inl ((a 17), 6, .inl (fun _ => 0))), ((g 21), .inl ((a 21), 60, .inl (fun _ => 0))), ((g 16), .inl ((a 16), 360, .inl (fun _ => 0)))] (fun r : Int32 => r = (-2)) (fun f => []) := by
  refine m_of (Qc := fun A => QI dC dI A (fun r : Int32 => r = (-2)) (fun f => [])) (lv := [(0, .ref (g 0))]) (by decide) (Nat.le_of_ble_eq_true rfl) rfl ?_
  intro p e s m below meth c A ls hx hb hr hml hT hown hlocks hname hP hK hD hS hA hl
  have hown : s.vm.findClass RX9 = some m.cls := hown
  refine lv_aload_n hx hb dX9_heat_0 rfl (lv_at hl 0 rfl) ?_
  refine c_Vi (C := RX9) (As := []) (rest := []) (wr := []) (n := 0) ⟨hx, hb, hml, hown, hT⟩ (k_X9_asksBrigade l dC dI g a ) hK hP hD hS hA [0, 1, 2, 3, 4] rfl [0, 1, 2, 3, 4, 5] [] rfl rfl rfl rfl (by decide) rfl rfl mw_130 mw_131 mw_132 mw_19 mw_133 (by decide +kernel) ⟨Nat.le_of_ble_eq_true rfl, Nat.le_of_ble_eq_true rfl⟩ ⟨rfl, rfl⟩ rfl hl.1 (Nat.le_of_ble_eq_true rfl) rfl dX9_heat_1 ⟨Nat.zero_le _, Nat.zero_le _⟩ (fun r f1 H locs er hP hD hS => ?_)
  have hP : va_P (dC, dI) vwCl [((g 0), .inr (9, oM g 0 0 0 0 0 0 (-1))), ((g 1), .inl ((a 1), 68, .inl (fun _ => 0))), ((g 15), .inl ((a 15), 6, .inl (fun _ => 0))), ((g 21), .inl ((a 21), 60, .inl (fun _ => 0))), ((g 16), .inl ((a 16), 360, .inl (fun _ => 0)))] H := hP
  have hD : va_D A [((g 0), .inr (9, oM g 0 0 0 0 0 0 (-1))), ((g 1), .inl ((a 1), 68, .inl (fun _ => 0))), ((g 15), .inl ((a 15), 6, .inl (fun _ => 0))), ((g 21), .inl ((a 21), 60, .inl (fun _ => 0))), ((g 16), .inl ((a 16), 360, .inl (fun _ => 0)))] := hD
  have er : r = 0 := er
  subst er
  refine lv_if_ne (tgt := 10) hx hb dX9_heat_4 (by decide) (fun c2 => ?_) (fun c2 => ?_)
  · exact absurd c2 (by decide)
  · refine lv_bipush (v := (-2)) hx hb dX9_heat_7 (by decide) ?_
    exact e_i hx hb hr hlocks hP hD hS (fun _ => 0) [] rfl rfl rfl dX9_heat_9
set_option maxRecDepth 100000 in
set_option maxHeartbeats 4000000 in
theorem k_X8_orders (l : Launch) (dC : Nat → ClassId) (dI : Nat → Nat → Nat) (g : Nat → Nat) (a : Nat → ClassId)   : MI l dC dI yX8_orders (Cond.code yX8_orders cX8_orders 1 (some .int)) ({ frames := 1, cells := 0, slots := 0, locals := 20 }) [.ref (g 0)] [((a 17), .int)] [((g 0), .inr (8, [.ref (g 1), .ref (g 2), .ref (g 4), .ref (g 16), .ref (g 64), .ref (g 65), .ref (g 66), .ref (g 70), .ref (g 75), .ref (g 87), .ref (g 94), .int 0, .int 0, .int 0])), ((g 16), .inr (1, [.ref (g 17), .ref (g 18), .ref (g 19), .ref (g 20), .ref (g 21), .ref (g 22), .ref (g 23), .ref (g 24), .ref (g 25), .ref (g 26), .ref (g 27)])), ((g 17), .inl ((a 17), 11, .inl (fun _ => 0)))] (fun r : Int32 => r = (-2)) (fun f => []) := by
  refine m_of (Qc := fun A => QI dC dI A (fun r : Int32 => r = (-2)) (fun f => [])) (lv := [(0, .ref (g 0))]) (by decide) (Nat.le_of_ble_eq_true rfl) rfl ?_
  intro p e s m below meth c A ls hx hb hr hml hT hown hlocks hname hP hK hD hS hA hl
  have hown : s.vm.findClass RX8 = some m.cls := hown
  refine lv_aload_n hx hb dX8_orders_0 rfl (lv_at hl 0 rfl) ?_
  refine va_get (D := (dC, dI)) (ci := 8) (v := .ref (g 16)) (C := RX8) (T := TX8) (N := 14) hx hb hT inT8 hown hK hP 0 rfl rfl 3 (by decide) (hT _ mw_45) (fun _ h9 => h9) rfl dX8_orders_1 ?_
  refine c_Vi (C := RX1) (As := []) (rest := []) (wr := [((g 0), .inr (8, [.ref (g 1), .ref (g 2), .ref (g 4), .ref (g 16), .ref (g 64), .ref (g 65), .ref (g 66), .ref (g 70), .ref (g 75), .ref (g 87), .ref (g 94), .int 0, .int 0, .int 0]))]) (n := 0) ⟨hx, hb, hml, hown, hT⟩ (k_X1_stands l dC dI g a ) hK hP hD hS hA [0] rfl [1, 2] [0] rfl rfl rfl rfl (by decide) rfl rfl mw_201 mw_202 mw_203 mw_27 mw_204 (by decide +kernel) ⟨Nat.le_of_ble_eq_true rfl, Nat.le_of_ble_eq_true rfl⟩ ⟨rfl, rfl⟩ rfl hl.1 (Nat.le_of_ble_eq_true rfl) rfl dX8_orders_4 ⟨Nat.zero_le _, Nat.zero_le _⟩ (fun r f1 H locs er hP hD hS => ?_)
  have hP : va_P (dC, dI) vwCl [((g 0), .inr (8, [.ref (g 1), .ref (g 2), .ref (g 4), .ref (g 16), .ref (g 64), .ref (g 65), .ref (g 66), .ref (g 70), .ref (g 75), .ref (g 87), .ref (g 94), .int 0, .int 0, .int 0])), ((g 16), .inr (1, [.ref (g 17), .ref (g 18), .ref (g 19), .ref (g 20), .ref (g 21), .ref (g 22), .ref (g 23), .ref (g 24), .ref (g 25), .ref (g 26), .ref (g 27)])), ((g 17), .inl ((a 17), 11, .inl (fun _ => 0)))] H := hP
  have hD : va_D A [((g 0), .inr (8, [.ref (g 1), .ref (g 2), .ref (g 4), .ref (g 16), .ref (g 64), .ref (g 65), .ref (g 66), .ref (g 70), .ref (g 75), .ref (g 87), .ref (g 94), .int 0, .int 0, .int 0])), ((g 16), .inr (1, [.ref (g 17), .ref (g 18), .ref (g 19), .ref (g 20), .ref (g 21), .ref (g 22), .ref (g 23), .ref (g 24), .ref (g 25), .ref (g 26), .ref (g 27)])), ((g 17), .inl ((a 17), 11, .inl (fun _ => 0)))] := hD
  have er : r = 0 := er
  subst er
  refine lv_if_eq (tgt := 20) hx hb dX8_orders_7 (by decide) (fun c2 => ?_) (fun c2 => ?_)
  · refine lv_bipush (v := (-2)) hx hb dX8_orders_20 (by decide) ?_
    exact e_i hx hb hr hlocks hP hD hS (fun _ => 0) [] rfl rfl rfl dX8_orders_22
  · exact absurd c2 (by decide)
set_option maxRecDepth 100000 in
set_option maxHeartbeats 4000000 in
theorem k_X9_asksOrders (l : Launch) (dC : Nat → ClassId) (dI : Nat → Nat → Nat) (g : Nat → Nat) (a : Nat → ClassId)   : MI l dC dI yX9_asksOrders (Cond.code yX9_asksOrders cX9_asksOrders 2 (some .boolean)) ({ frames := 1, cells := 0, slots := 0, locals := 20 }) [.ref (g 0)] [((a 1), .int)] [((g 0), .inr (9, oM g 0 0 0 0 0 0 (-1))), ((g 1), .inl ((a 1), 68, .inl (fun _ => 0)))] (fun r : Int32 => r = 0) (fun f => [((g 0), .inr (9, oM g 0 0 0 0 0 0 (-1))), ((g 1), .inl ((a 1), 68, .inl (fun _ => 0)))]) := by
  refine m_of (Qc := fun A => QI dC dI A (fun r : Int32 => r = 0) (fun f => [((g 0), .inr (9, oM g 0 0 0 0 0 0 (-1))), ((g 1), .inl ((a 1), 68, .inl (fun _ => 0)))])) (lv := [(0, .ref (g 0))]) (by decide) (Nat.le_of_ble_eq_true rfl) rfl ?_
  intro p e s m below meth c A ls hx hb hr hml hT hown hlocks hname hP hK hD hS hA hl
  have hown : s.vm.findClass RX9 = some m.cls := hown
  refine lv_aload_n hx hb dX9_asksOrders_0 rfl (lv_at hl 0 rfl) ?_
  refine c_Vi (C := RX9) (As := []) (rest := []) (wr := []) (n := 0) ⟨hx, hb, hml, hown, hT⟩ (k_X9_isBrigade l dC dI g a ) hK hP hD hS hA [0] rfl [0, 1] [] rfl rfl rfl rfl (by decide) rfl rfl mw_126 mw_127 mw_128 mw_19 mw_129 (by decide +kernel) ⟨Nat.le_of_ble_eq_true rfl, Nat.le_of_ble_eq_true rfl⟩ ⟨rfl, rfl⟩ rfl hl.1 (Nat.le_of_ble_eq_true rfl) rfl dX9_asksOrders_1 ⟨Nat.zero_le _, Nat.zero_le _⟩ (fun r f1 H locs er hP hD hS => ?_)
  have hP : va_P (dC, dI) vwCl [((g 0), .inr (9, oM g 0 0 0 0 0 0 (-1))), ((g 1), .inl ((a 1), 68, .inl (fun _ => 0)))] H := hP
  have hD : va_D A [((g 0), .inr (9, oM g 0 0 0 0 0 0 (-1))), ((g 1), .inl ((a 1), 68, .inl (fun _ => 0)))] := hD
  have er : r = 0 := er
  subst er
  refine lv_if_ne (tgt := 9) hx hb dX9_asksOrders_4 (by decide) (fun c2 => ?_) (fun c2 => ?_)
  · exact absurd c2 (by decide)
  · refine lv_iconst (v := 0) hx hb dX9_asksOrders_7 (by decide) ?_
    exact e_z hx hb hr hlocks hP hD hS (fun _ => 0) [0, 1] rfl rfl rfl rfl dX9_asksOrders_8
set_option maxRecDepth 100000 in
set_option maxHeartbeats 4000000 in
theorem k_X9_orders (l : Launch) (dC : Nat → ClassId) (dI : Nat → Nat → Nat) (g : Nat → Nat) (a : Nat → ClassId)   : MI l dC dI yX9_orders (Cond.code yX9_orders cX9_orders 1 (some .int)) ({ frames := 2, cells := 0, slots := 0, locals := 41 }) [.ref (g 0)] [((a 1), .int)] [((g 0), .inr (9, oM g 0 0 0 0 0 0 (-1))), ((g 1), .inl ((a 1), 68, .inl (fun _ => 0)))] (fun r : Int32 => r = (-2)) (fun f => []) := by
  refine m_of (Qc := fun A => QI dC dI A (fun r : Int32 => r = (-2)) (fun f => [])) (lv := [(0, .ref (g 0))]) (by decide) (Nat.le_of_ble_eq_true rfl) rfl ?_
  intro p e s m below meth c A ls hx hb hr hml hT hown hlocks hname hP hK hD hS hA hl
  have hown : s.vm.findClass RX9 = some m.cls := hown
  refine lv_aload_n hx hb dX9_orders_0 rfl (lv_at hl 0 rfl) ?_
  refine c_Vi (C := RX9) (As := []) (rest := []) (wr := []) (n := 0) ⟨hx, hb, hml, hown, hT⟩ (k_X9_asksOrders l dC dI g a ) hK hP hD hS hA [0] rfl [0, 1] [] rfl rfl rfl rfl (by decide) rfl rfl mw_218 mw_219 mw_220 mw_19 mw_221 (by decide +kernel) ⟨Nat.le_of_ble_eq_true rfl, Nat.le_of_ble_eq_true rfl⟩ ⟨rfl, rfl⟩ rfl hl.1 (Nat.le_of_ble_eq_true rfl) rfl dX9_orders_1 ⟨Nat.zero_le _, Nat.zero_le _⟩ (fun r f1 H locs er hP hD hS => ?_)
  have hP : va_P (dC, dI) vwCl [((g 0), .inr (9, oM g 0 0 0 0 0 0 (-1))), ((g 1), .inl ((a 1), 68, .inl (fun _ => 0)))] H := hP
  have hD : va_D A [((g 0), .inr (9, oM g 0 0 0 0 0 0 (-1))), ((g 1), .inl ((a 1), 68, .inl (fun _ => 0)))] := hD
  have er : r = 0 := er
  subst er
  refine lv_if_eq (tgt := 14) hx hb dX9_orders_4 (by decide) (fun c2 => ?_) (fun c2 => ?_)
  · refine lv_bipush (v := (-2)) hx hb dX9_orders_14 (by decide) ?_
    exact e_i hx hb hr hlocks hP hD hS (fun _ => 0) [] rfl rfl rfl dX9_orders_16
  · exact absurd c2 (by decide)
set_option maxRecDepth 100000 in
set_option maxHeartbeats 4000000 in
theorem k_X8_best (l : Launch) (dC : Nat → ClassId) (dI : Nat → Nat → Nat) (g : Nat → Nat) (a : Nat → ClassId)   : MI l dC dI yX8_best (Cond.code yX8_best cX8_best 2 (some .int)) ({ frames := 1, cells := 0, slots := 0, locals := 20 }) [.ref (g 0)] [((a 17), .int)] [((g 0), .inr (8, [.ref (g 1), .ref (g 2), .ref (g 4), .ref (g 16), .ref (g 64), .ref (g 65), .ref (g 66), .ref (g 70), .ref (g 75), .ref (g 87), .ref (g 94), .int 0, .int 0, .int 0])), ((g 16), .inr (1, [.ref (g 17), .ref (g 18), .ref (g 19), .ref (g 20), .ref (g 21), .ref (g 22), .ref (g 23), .ref (g 24), .ref (g 25), .ref (g 26), .ref (g 27)])), ((g 17), .inl ((a 17), 11, .inl (fun _ => 0)))] (fun r : Int32 => r = (-2)) (fun f => []) := by
  refine m_of (Qc := fun A => QI dC dI A (fun r : Int32 => r = (-2)) (fun f => [])) (lv := [(0, .ref (g 0))]) (by decide) (Nat.le_of_ble_eq_true rfl) rfl ?_
  intro p e s m below meth c A ls hx hb hr hml hT hown hlocks hname hP hK hD hS hA hl
  have hown : s.vm.findClass RX8 = some m.cls := hown
  refine lv_aload_n hx hb dX8_best_0 rfl (lv_at hl 0 rfl) ?_
  refine va_get (D := (dC, dI)) (ci := 8) (v := .ref (g 16)) (C := RX8) (T := TX8) (N := 14) hx hb hT inT8 hown hK hP 0 rfl rfl 3 (by decide) (hT _ mw_45) (fun _ h9 => h9) rfl dX8_best_1 ?_
  refine c_Vi (C := RX1) (As := []) (rest := []) (wr := [((g 0), .inr (8, [.ref (g 1), .ref (g 2), .ref (g 4), .ref (g 16), .ref (g 64), .ref (g 65), .ref (g 66), .ref (g 70), .ref (g 75), .ref (g 87), .ref (g 94), .int 0, .int 0, .int 0]))]) (n := 0) ⟨hx, hb, hml, hown, hT⟩ (k_X1_stands l dC dI g a ) hK hP hD hS hA [0] rfl [1, 2] [0] rfl rfl rfl rfl (by decide) rfl rfl mw_201 mw_202 mw_203 mw_27 mw_204 (by decide +kernel) ⟨Nat.le_of_ble_eq_true rfl, Nat.le_of_ble_eq_true rfl⟩ ⟨rfl, rfl⟩ rfl hl.1 (Nat.le_of_ble_eq_true rfl) rfl dX8_best_4 ⟨Nat.zero_le _, Nat.zero_le _⟩ (fun r f1 H locs er hP hD hS => ?_)
  have hP : va_P (dC, dI) vwCl [((g 0), .inr (8, [.ref (g 1), .ref (g 2), .ref (g 4), .ref (g 16), .ref (g 64), .ref (g 65), .ref (g 66), .ref (g 70), .ref (g 75), .ref (g 87), .ref (g 94), .int 0, .int 0, .int 0])), ((g 16), .inr (1, [.ref (g 17), .ref (g 18), .ref (g 19), .ref (g 20), .ref (g 21), .ref (g 22), .ref (g 23), .ref (g 24), .ref (g 25), .ref (g 26), .ref (g 27)])), ((g 17), .inl ((a 17), 11, .inl (fun _ => 0)))] H := hP
  have hD : va_D A [((g 0), .inr (8, [.ref (g 1), .ref (g 2), .ref (g 4), .ref (g 16), .ref (g 64), .ref (g 65), .ref (g 66), .ref (g 70), .ref (g 75), .ref (g 87), .ref (g 94), .int 0, .int 0, .int 0])), ((g 16), .inr (1, [.ref (g 17), .ref (g 18), .ref (g 19), .ref (g 20), .ref (g 21), .ref (g 22), .ref (g 23), .ref (g 24), .ref (g 25), .ref (g 26), .ref (g 27)])), ((g 17), .inl ((a 17), 11, .inl (fun _ => 0)))] := hD
  have er : r = 0 := er
  subst er
  refine lv_if_ne (tgt := 13) hx hb dX8_best_7 (by decide) (fun c2 => ?_) (fun c2 => ?_)
  · exact absurd c2 (by decide)
  · refine lv_bipush (v := (-2)) hx hb dX8_best_10 (by decide) ?_
    exact e_i hx hb hr hlocks hP hD hS (fun _ => 0) [] rfl rfl rfl dX8_best_12
set_option maxRecDepth 100000 in
set_option maxHeartbeats 4000000 in
theorem k_X9_best (l : Launch) (dC : Nat → ClassId) (dI : Nat → Nat → Nat) (g : Nat → Nat) (a : Nat → ClassId)   : MI l dC dI yX9_best (Cond.code yX9_best cX9_best 1 (some .int)) ({ frames := 2, cells := 0, slots := 0, locals := 41 }) [.ref (g 0)] [((a 1), .int)] [((g 0), .inr (9, oM g 0 0 0 0 0 0 (-1))), ((g 1), .inl ((a 1), 68, .inl (fun _ => 0)))] (fun r : Int32 => r = (-2)) (fun f => []) := by
  refine m_of (Qc := fun A => QI dC dI A (fun r : Int32 => r = (-2)) (fun f => [])) (lv := [(0, .ref (g 0))]) (by decide) (Nat.le_of_ble_eq_true rfl) rfl ?_
  intro p e s m below meth c A ls hx hb hr hml hT hown hlocks hname hP hK hD hS hA hl
  have hown : s.vm.findClass RX9 = some m.cls := hown
  refine lv_aload_n hx hb dX9_best_0 rfl (lv_at hl 0 rfl) ?_
  refine c_Vi (C := RX9) (As := []) (rest := []) (wr := []) (n := 0) ⟨hx, hb, hml, hown, hT⟩ (k_X9_asksOrders l dC dI g a ) hK hP hD hS hA [0] rfl [0, 1] [] rfl rfl rfl rfl (by decide) rfl rfl mw_218 mw_219 mw_220 mw_19 mw_221 (by decide +kernel) ⟨Nat.le_of_ble_eq_true rfl, Nat.le_of_ble_eq_true rfl⟩ ⟨rfl, rfl⟩ rfl hl.1 (Nat.le_of_ble_eq_true rfl) rfl dX9_best_1 ⟨Nat.zero_le _, Nat.zero_le _⟩ (fun r f1 H locs er hP hD hS => ?_)
  have hP : va_P (dC, dI) vwCl [((g 0), .inr (9, oM g 0 0 0 0 0 0 (-1))), ((g 1), .inl ((a 1), 68, .inl (fun _ => 0)))] H := hP
  have hD : va_D A [((g 0), .inr (9, oM g 0 0 0 0 0 0 (-1))), ((g 1), .inl ((a 1), 68, .inl (fun _ => 0)))] := hD
  have er : r = 0 := er
  subst er
  refine lv_if_eq (tgt := 14) hx hb dX9_best_4 (by decide) (fun c2 => ?_) (fun c2 => ?_)
  · refine lv_bipush (v := (-2)) hx hb dX9_best_14 (by decide) ?_
    exact e_i hx hb hr hlocks hP hD hS (fun _ => 0) [] rfl rfl rfl dX9_best_16
  · exact absurd c2 (by decide)
set_option maxRecDepth 100000 in
set_option maxHeartbeats 4000000 in
theorem k_X8_place (l : Launch) (dC : Nat → ClassId) (dI : Nat → Nat → Nat) (g : Nat → Nat) (a : Nat → ClassId) (p0 : Int32)  : MI l dC dI yX8_place (Cond.code yX8_place cX8_place 3 (some .int)) ({ frames := 1, cells := 0, slots := 0, locals := 21 }) [.ref (g 0), .int p0] [((a 17), .int)] [((g 0), .inr (8, [.ref (g 1), .ref (g 2), .ref (g 4), .ref (g 16), .ref (g 64), .ref (g 65), .ref (g 66), .ref (g 70), .ref (g 75), .ref (g 87), .ref (g 94), .int 0, .int 0, .int 0])), ((g 16), .inr (1, [.ref (g 17), .ref (g 18), .ref (g 19), .ref (g 20), .ref (g 21), .ref (g 22), .ref (g 23), .ref (g 24), .ref (g 25), .ref (g 26), .ref (g 27)])), ((g 17), .inl ((a 17), 11, .inl (fun _ => 0)))] (fun r : Int32 => r = (-2)) (fun f => []) := by
  refine m_of (Qc := fun A => QI dC dI A (fun r : Int32 => r = (-2)) (fun f => [])) (lv := [(0, .ref (g 0)), (1, .int p0)]) (by decide) (Nat.le_of_ble_eq_true rfl) rfl ?_
  intro p e s m below meth c A ls hx hb hr hml hT hown hlocks hname hP hK hD hS hA hl
  have hown : s.vm.findClass RX8 = some m.cls := hown
  refine lv_aload_n hx hb dX8_place_0 rfl (lv_at hl 0 rfl) ?_
  refine va_get (D := (dC, dI)) (ci := 8) (v := .ref (g 16)) (C := RX8) (T := TX8) (N := 14) hx hb hT inT8 hown hK hP 0 rfl rfl 3 (by decide) (hT _ mw_45) (fun _ h9 => h9) rfl dX8_place_1 ?_
  refine lv_iload_n hx hb dX8_place_4 rfl (lv_at hl 1 rfl) ?_
  refine c_Vi (C := RX1) (As := [.int p0]) (rest := []) (wr := [((g 0), .inr (8, [.ref (g 1), .ref (g 2), .ref (g 4), .ref (g 16), .ref (g 64), .ref (g 65), .ref (g 66), .ref (g 70), .ref (g 75), .ref (g 87), .ref (g 94), .int 0, .int 0, .int 0]))]) (n := 1) ⟨hx, hb, hml, hown, hT⟩ (k_X1_hasHand l dC dI g a p0) hK hP hD hS hA [0] rfl [1, 2] [0] rfl rfl rfl rfl (by decide) rfl rfl mw_99 mw_100 mw_101 mw_27 mw_102 (by decide +kernel) ⟨Nat.le_of_ble_eq_true rfl, Nat.le_of_ble_eq_true rfl⟩ ⟨rfl, rfl⟩ rfl hl.1 (Nat.le_of_ble_eq_true rfl) rfl dX8_place_5 ⟨Nat.zero_le _, Nat.zero_le _⟩ (fun r f1 H locs er hP hD hS => ?_)
  have hP : va_P (dC, dI) vwCl [((g 0), .inr (8, [.ref (g 1), .ref (g 2), .ref (g 4), .ref (g 16), .ref (g 64), .ref (g 65), .ref (g 66), .ref (g 70), .ref (g 75), .ref (g 87), .ref (g 94), .int 0, .int 0, .int 0])), ((g 16), .inr (1, [.ref (g 17), .ref (g 18), .ref (g 19), .ref (g 20), .ref (g 21), .ref (g 22), .ref (g 23), .ref (g 24), .ref (g 25), .ref (g 26), .ref (g 27)])), ((g 17), .inl ((a 17), 11, .inl (fun _ => 0)))] H := hP
  have hD : va_D A [((g 0), .inr (8, [.ref (g 1), .ref (g 2), .ref (g 4), .ref (g 16), .ref (g 64), .ref (g 65), .ref (g 66), .ref (g 70), .ref (g 75), .ref (g 87), .ref (g 94), .int 0, .int 0, .int 0])), ((g 16), .inr (1, [.ref (g 17), .ref (g 18), .ref (g 19), .ref (g 20), .ref (g 21), .ref (g 22), .ref (g 23), .ref (g 24), .ref (g 25), .ref (g 26), .ref (g 27)])), ((g 17), .inl ((a 17), 11, .inl (fun _ => 0)))] := hD
  have er : r = 0 := er
  subst er
  refine lv_if_ne (tgt := 14) hx hb dX8_place_8 (by decide) (fun c2 => ?_) (fun c2 => ?_)
  · exact absurd c2 (by decide)
  · refine lv_bipush (v := (-2)) hx hb dX8_place_11 (by decide) ?_
    exact e_i hx hb hr hlocks hP hD hS (fun _ => 0) [] rfl rfl rfl dX8_place_13
set_option maxRecDepth 100000 in
set_option maxHeartbeats 4000000 in
theorem k_X9_place (l : Launch) (dC : Nat → ClassId) (dI : Nat → Nat → Nat) (g : Nat → Nat) (a : Nat → ClassId) (p0 : Int32)  : MI l dC dI yX9_place (Cond.code yX9_place cX9_place 2 (some .int)) ({ frames := 2, cells := 0, slots := 0, locals := 46 }) [.ref (g 0), .int p0] [((a 1), .int)] [((g 0), .inr (9, oM g 0 0 0 0 0 0 (-1))), ((g 1), .inl ((a 1), 68, .inl (fun _ => 0)))] (fun r : Int32 => r = (-2)) (fun f => []) := by
  refine m_of (Qc := fun A => QI dC dI A (fun r : Int32 => r = (-2)) (fun f => [])) (lv := [(0, .ref (g 0)), (1, .int p0)]) (by decide) (Nat.le_of_ble_eq_true rfl) rfl ?_
  intro p e s m below meth c A ls hx hb hr hml hT hown hlocks hname hP hK hD hS hA hl
  have hown : s.vm.findClass RX9 = some m.cls := hown
  refine lv_aload_n hx hb dX9_place_0 rfl (lv_at hl 0 rfl) ?_
  refine lv_iload_n hx hb dX9_place_1 rfl (lv_at hl 1 rfl) ?_
  refine c_Vi (C := RX9) (As := [.int p0]) (rest := []) (wr := []) (n := 1) ⟨hx, hb, hml, hown, hT⟩ (k_X9_isHand l dC dI g a p0) hK hP hD hS hA [0] rfl [0, 1] [] rfl rfl rfl rfl (by decide) rfl rfl mw_118 mw_119 mw_120 mw_19 mw_121 (by decide +kernel) ⟨Nat.le_of_ble_eq_true rfl, Nat.le_of_ble_eq_true rfl⟩ ⟨rfl, rfl⟩ rfl hl.1 (Nat.le_of_ble_eq_true rfl) rfl dX9_place_2 ⟨Nat.zero_le _, Nat.zero_le _⟩ (fun r f1 H locs er hP hD hS => ?_)
  have hP : va_P (dC, dI) vwCl [((g 0), .inr (9, oM g 0 0 0 0 0 0 (-1))), ((g 1), .inl ((a 1), 68, .inl (fun _ => 0)))] H := hP
  have hD : va_D A [((g 0), .inr (9, oM g 0 0 0 0 0 0 (-1))), ((g 1), .inl ((a 1), 68, .inl (fun _ => 0)))] := hD
  have er : r = 0 := er
  subst er
  refine lv_if_eq (tgt := 35) hx hb dX9_place_5 (by decide) (fun c2 => ?_) (fun c2 => ?_)
  · refine lv_bipush (v := (-2)) hx hb dX9_place_35 (by decide) ?_
    exact e_i hx hb hr hlocks hP hD hS (fun _ => 0) [] rfl rfl rfl dX9_place_37
  · exact absurd c2 (by decide)
set_option maxRecDepth 100000 in
set_option maxHeartbeats 4000000 in
theorem k_X8_soonest (l : Launch) (dC : Nat → ClassId) (dI : Nat → Nat → Nat) (g : Nat → Nat) (a : Nat → ClassId)   : MI l dC dI yX8_soonest (Cond.code yX8_soonest cX8_soonest 5 (some .int)) ({ frames := 1, cells := 0, slots := 0, locals := 20 }) [.ref (g 0)] [((a 17), .int)] [((g 0), .inr (8, [.ref (g 1), .ref (g 2), .ref (g 4), .ref (g 16), .ref (g 64), .ref (g 65), .ref (g 66), .ref (g 70), .ref (g 75), .ref (g 87), .ref (g 94), .int 0, .int 0, .int 0])), ((g 16), .inr (1, [.ref (g 17), .ref (g 18), .ref (g 19), .ref (g 20), .ref (g 21), .ref (g 22), .ref (g 23), .ref (g 24), .ref (g 25), .ref (g 26), .ref (g 27)])), ((g 17), .inl ((a 17), 11, .inl (fun _ => 0)))] (fun r : Int32 => r = (-2)) (fun f => []) := by
  refine m_of (Qc := fun A => QI dC dI A (fun r : Int32 => r = (-2)) (fun f => [])) (lv := [(0, .ref (g 0))]) (by decide) (Nat.le_of_ble_eq_true rfl) rfl ?_
  intro p e s m below meth c A ls hx hb hr hml hT hown hlocks hname hP hK hD hS hA hl
  have hown : s.vm.findClass RX8 = some m.cls := hown
  refine lv_aload_n hx hb dX8_soonest_0 rfl (lv_at hl 0 rfl) ?_
  refine va_get (D := (dC, dI)) (ci := 8) (v := .ref (g 16)) (C := RX8) (T := TX8) (N := 14) hx hb hT inT8 hown hK hP 0 rfl rfl 3 (by decide) (hT _ mw_45) (fun _ h9 => h9) rfl dX8_soonest_1 ?_
  refine c_Vi (C := RX1) (As := []) (rest := []) (wr := [((g 0), .inr (8, [.ref (g 1), .ref (g 2), .ref (g 4), .ref (g 16), .ref (g 64), .ref (g 65), .ref (g 66), .ref (g 70), .ref (g 75), .ref (g 87), .ref (g 94), .int 0, .int 0, .int 0]))]) (n := 0) ⟨hx, hb, hml, hown, hT⟩ (k_X1_stands l dC dI g a ) hK hP hD hS hA [0] rfl [1, 2] [0] rfl rfl rfl rfl (by decide) rfl rfl mw_201 mw_202 mw_203 mw_27 mw_204 (by decide +kernel) ⟨Nat.le_of_ble_eq_true rfl, Nat.le_of_ble_eq_true rfl⟩ ⟨rfl, rfl⟩ rfl hl.1 (Nat.le_of_ble_eq_true rfl) rfl dX8_soonest_4 ⟨Nat.zero_le _, Nat.zero_le _⟩ (fun r f1 H locs er hP hD hS => ?_)
  have hP : va_P (dC, dI) vwCl [((g 0), .inr (8, [.ref (g 1), .ref (g 2), .ref (g 4), .ref (g 16), .ref (g 64), .ref (g 65), .ref (g 66), .ref (g 70), .ref (g 75), .ref (g 87), .ref (g 94), .int 0, .int 0, .int 0])), ((g 16), .inr (1, [.ref (g 17), .ref (g 18), .ref (g 19), .ref (g 20), .ref (g 21), .ref (g 22), .ref (g 23), .ref (g 24), .ref (g 25), .ref (g 26), .ref (g 27)])), ((g 17), .inl ((a 17), 11, .inl (fun _ => 0)))] H := hP
  have hD : va_D A [((g 0), .inr (8, [.ref (g 1), .ref (g 2), .ref (g 4), .ref (g 16), .ref (g 64), .ref (g 65), .ref (g 66), .ref (g 70), .ref (g 75), .ref (g 87), .ref (g 94), .int 0, .int 0, .int 0])), ((g 16), .inr (1, [.ref (g 17), .ref (g 18), .ref (g 19), .ref (g 20), .ref (g 21), .ref (g 22), .ref (g 23), .ref (g 24), .ref (g 25), .ref (g 26), .ref (g 27)])), ((g 17), .inl ((a 17), 11, .inl (fun _ => 0)))] := hD
  have er : r = 0 := er
  subst er
  refine lv_if_ne (tgt := 13) hx hb dX8_soonest_7 (by decide) (fun c2 => ?_) (fun c2 => ?_)
  · exact absurd c2 (by decide)
  · refine lv_bipush (v := (-2)) hx hb dX8_soonest_10 (by decide) ?_
    exact e_i hx hb hr hlocks hP hD hS (fun _ => 0) [] rfl rfl rfl dX8_soonest_12
set_option maxRecDepth 100000 in
set_option maxHeartbeats 4000000 in
theorem k_X9_soonest (l : Launch) (dC : Nat → ClassId) (dI : Nat → Nat → Nat) (g : Nat → Nat) (a : Nat → ClassId)   : MI l dC dI yX9_soonest (Cond.code yX9_soonest cX9_soonest 1 (some .int)) ({ frames := 2, cells := 0, slots := 0, locals := 41 }) [.ref (g 0)] [((a 1), .int)] [((g 0), .inr (9, oM g 0 0 0 0 0 0 (-1))), ((g 1), .inl ((a 1), 68, .inl (fun _ => 0)))] (fun r : Int32 => r = (-2)) (fun f => []) := by
  refine m_of (Qc := fun A => QI dC dI A (fun r : Int32 => r = (-2)) (fun f => [])) (lv := [(0, .ref (g 0))]) (by decide) (Nat.le_of_ble_eq_true rfl) rfl ?_
  intro p e s m below meth c A ls hx hb hr hml hT hown hlocks hname hP hK hD hS hA hl
  have hown : s.vm.findClass RX9 = some m.cls := hown
  refine lv_aload_n hx hb dX9_soonest_0 rfl (lv_at hl 0 rfl) ?_
  refine c_Vi (C := RX9) (As := []) (rest := []) (wr := []) (n := 0) ⟨hx, hb, hml, hown, hT⟩ (k_X9_asksOrders l dC dI g a ) hK hP hD hS hA [0] rfl [0, 1] [] rfl rfl rfl rfl (by decide) rfl rfl mw_218 mw_219 mw_220 mw_19 mw_221 (by decide +kernel) ⟨Nat.le_of_ble_eq_true rfl, Nat.le_of_ble_eq_true rfl⟩ ⟨rfl, rfl⟩ rfl hl.1 (Nat.le_of_ble_eq_true rfl) rfl dX9_soonest_1 ⟨Nat.zero_le _, Nat.zero_le _⟩ (fun r f1 H locs er hP hD hS => ?_)
  have hP : va_P (dC, dI) vwCl [((g 0), .inr (9, oM g 0 0 0 0 0 0 (-1))), ((g 1), .inl ((a 1), 68, .inl (fun _ => 0)))] H := hP
  have hD : va_D A [((g 0), .inr (9, oM g 0 0 0 0 0 0 (-1))), ((g 1), .inl ((a 1), 68, .inl (fun _ => 0)))] := hD
  have er : r = 0 := er
  subst er
  refine lv_if_eq (tgt := 28) hx hb dX9_soonest_4 (by decide) (fun c2 => ?_) (fun c2 => ?_)
  · refine lv_bipush (v := (-2)) hx hb dX9_soonest_28 (by decide) ?_
    exact e_i hx hb hr hlocks hP hD hS (fun _ => 0) [] rfl rfl rfl dX9_soonest_30
  · exact absurd c2 (by decide)
set_option maxRecDepth 100000 in
set_option maxHeartbeats 4000000 in
theorem k_X8_change (l : Launch) (dC : Nat → ClassId) (dI : Nat → Nat → Nat) (g : Nat → Nat) (a : Nat → ClassId)   : MI l dC dI yX8_change (Cond.code yX8_change cX8_change 6 (some .int)) ({ frames := 1, cells := 0, slots := 0, locals := 20 }) [.ref (g 0)] [((a 17), .int)] [((g 0), .inr (8, [.ref (g 1), .ref (g 2), .ref (g 4), .ref (g 16), .ref (g 64), .ref (g 65), .ref (g 66), .ref (g 70), .ref (g 75), .ref (g 87), .ref (g 94), .int 0, .int 0, .int 0])), ((g 16), .inr (1, [.ref (g 17), .ref (g 18), .ref (g 19), .ref (g 20), .ref (g 21), .ref (g 22), .ref (g 23), .ref (g 24), .ref (g 25), .ref (g 26), .ref (g 27)])), ((g 17), .inl ((a 17), 11, .inl (fun _ => 0)))] (fun r : Int32 => r = (-2)) (fun f => []) := by
  refine m_of (Qc := fun A => QI dC dI A (fun r : Int32 => r = (-2)) (fun f => [])) (lv := [(0, .ref (g 0))]) (by decide) (Nat.le_of_ble_eq_true rfl) rfl ?_
  intro p e s m below meth c A ls hx hb hr hml hT hown hlocks hname hP hK hD hS hA hl
  have hown : s.vm.findClass RX8 = some m.cls := hown
  refine lv_aload_n hx hb dX8_change_0 rfl (lv_at hl 0 rfl) ?_
  refine va_get (D := (dC, dI)) (ci := 8) (v := .ref (g 16)) (C := RX8) (T := TX8) (N := 14) hx hb hT inT8 hown hK hP 0 rfl rfl 3 (by decide) (hT _ mw_45) (fun _ h9 => h9) rfl dX8_change_1 ?_
  refine c_Vi (C := RX1) (As := []) (rest := []) (wr := [((g 0), .inr (8, [.ref (g 1), .ref (g 2), .ref (g 4), .ref (g 16), .ref (g 64), .ref (g 65), .ref (g 66), .ref (g 70), .ref (g 75), .ref (g 87), .ref (g 94), .int 0, .int 0, .int 0]))]) (n := 0) ⟨hx, hb, hml, hown, hT⟩ (k_X1_stands l dC dI g a ) hK hP hD hS hA [0] rfl [1, 2] [0] rfl rfl rfl rfl (by decide) rfl rfl mw_201 mw_202 mw_203 mw_27 mw_204 (by decide +kernel) ⟨Nat.le_of_ble_eq_true rfl, Nat.le_of_ble_eq_true rfl⟩ ⟨rfl, rfl⟩ rfl hl.1 (Nat.le_of_ble_eq_true rfl) rfl dX8_change_4 ⟨Nat.zero_le _, Nat.zero_le _⟩ (fun r f1 H locs er hP hD hS => ?_)
  have hP : va_P (dC, dI) vwCl [((g 0), .inr (8, [.ref (g 1), .ref (g 2), .ref (g 4), .ref (g 16), .ref (g 64), .ref (g 65), .ref (g 66), .ref (g 70), .ref (g 75), .ref (g 87), .ref (g 94), .int 0, .int 0, .int 0])), ((g 16), .inr (1, [.ref (g 17), .ref (g 18), .ref (g 19), .ref (g 20), .ref (g 21), .ref (g 22), .ref (g 23), .ref (g 24), .ref (g 25), .ref (g 26), .ref (g 27)])), ((g 17), .inl ((a 17), 11, .inl (fun _ => 0)))] H := hP
  have hD : va_D A [((g 0), .inr (8, [.ref (g 1), .ref (g 2), .ref (g 4), .ref (g 16), .ref (g 64), .ref (g 65), .ref (g 66), .ref (g 70), .ref (g 75), .ref (g 87), .ref (g 94), .int 0, .int 0, .int 0])), ((g 16), .inr (1, [.ref (g 17), .ref (g 18), .ref (g 19), .ref (g 20), .ref (g 21), .ref (g 22), .ref (g 23), .ref (g 24), .ref (g 25), .ref (g 26), .ref (g 27)])), ((g 17), .inl ((a 17), 11, .inl (fun _ => 0)))] := hD
  have er : r = 0 := er
  subst er
  refine lv_if_ne (tgt := 13) hx hb dX8_change_7 (by decide) (fun c2 => ?_) (fun c2 => ?_)
  · exact absurd c2 (by decide)
  · refine lv_bipush (v := (-2)) hx hb dX8_change_10 (by decide) ?_
    exact e_i hx hb hr hlocks hP hD hS (fun _ => 0) [] rfl rfl rfl dX8_change_12
set_option maxRecDepth 100000 in
set_option maxHeartbeats 4000000 in
theorem k_X9_change_ (l : Launch) (dC : Nat → ClassId) (dI : Nat → Nat → Nat) (g : Nat → Nat) (a : Nat → ClassId)   : MI l dC dI yX9_change_ (Cond.code yX9_change_ cX9_change_ 6 (some .int)) ({ frames := 3, cells := 0, slots := 0, locals := 65 }) [.ref (g 0)] [((a 1), .int), ((a 15), .int), ((a 17), .int), ((a 21), .boolean), ((a 16), .boolean)] [((g 0), .inr (9, oM g 0 0 0 0 0 0 (-1))), ((g 1), .inl ((a 1), 68, .inl (fun _ => 0))), ((g 15), .inl ((a 15), 6, .inl (fun _ => 0))), ((g 17), .inl ((a 17), 6, .inl (fun _ => 0))), ((g 21), .inl ((a 21), 60, .inl (fun _ => 0))), ((g 16), .inl ((a 16), 360, .inl (fun _ => 0)))] (fun r : Int32 => r = (-2)) (fun f => []) := by
  refine m_of (Qc := fun A => QI dC dI A (fun r : Int32 => r = (-2)) (fun f => [])) (lv := [(0, .ref (g 0))]) (by decide) (Nat.le_of_ble_eq_true rfl) rfl ?_
  intro p e s m below meth c A ls hx hb hr hml hT hown hlocks hname hP hK hD hS hA hl
  have hown : s.vm.findClass RX9 = some m.cls := hown
  refine lv_aload_n hx hb dX9_change__0 rfl (lv_at hl 0 rfl) ?_
  refine c_Vi (C := RX9) (As := []) (rest := []) (wr := []) (n := 0) ⟨hx, hb, hml, hown, hT⟩ (k_X9_asksBrigade l dC dI g a ) hK hP hD hS hA [0, 1, 2, 3, 4] rfl [0, 1, 2, 3, 4, 5] [] rfl rfl rfl rfl (by decide) rfl rfl mw_130 mw_131 mw_132 mw_19 mw_133 (by decide +kernel) ⟨Nat.le_of_ble_eq_true rfl, Nat.le_of_ble_eq_true rfl⟩ ⟨rfl, rfl⟩ rfl hl.1 (Nat.le_of_ble_eq_true rfl) rfl dX9_change__1 ⟨Nat.zero_le _, Nat.zero_le _⟩ (fun r f1 H locs er hP hD hS => ?_)
  have hP : va_P (dC, dI) vwCl [((g 0), .inr (9, oM g 0 0 0 0 0 0 (-1))), ((g 1), .inl ((a 1), 68, .inl (fun _ => 0))), ((g 15), .inl ((a 15), 6, .inl (fun _ => 0))), ((g 21), .inl ((a 21), 60, .inl (fun _ => 0))), ((g 16), .inl ((a 16), 360, .inl (fun _ => 0)))] H := hP
  have hD : va_D A [((g 0), .inr (9, oM g 0 0 0 0 0 0 (-1))), ((g 1), .inl ((a 1), 68, .inl (fun _ => 0))), ((g 15), .inl ((a 15), 6, .inl (fun _ => 0))), ((g 21), .inl ((a 21), 60, .inl (fun _ => 0))), ((g 16), .inl ((a 16), 360, .inl (fun _ => 0)))] := hD
  have er : r = 0 := er
  subst er
  refine lv_if_ne (tgt := 10) hx hb dX9_change__4 (by decide) (fun c2 => ?_) (fun c2 => ?_)
  · exact absurd c2 (by decide)
  · refine lv_bipush (v := (-2)) hx hb dX9_change__7 (by decide) ?_
    exact e_i hx hb hr hlocks hP hD hS (fun _ => 0) [] rfl rfl rfl dX9_change__9
set_option maxRecDepth 100000 in
set_option maxHeartbeats 4000000 in
theorem k_X8_lets (l : Launch) (dC : Nat → ClassId) (dI : Nat → Nat → Nat) (g : Nat → Nat) (a : Nat → ClassId)   : MI l dC dI yX8_lets (Cond.code yX8_lets cX8_lets 1 (some .int)) ({ frames := 1, cells := 0, slots := 0, locals := 20 }) [.ref (g 0)] [((a 17), .int)] [((g 0), .inr (8, [.ref (g 1), .ref (g 2), .ref (g 4), .ref (g 16), .ref (g 64), .ref (g 65), .ref (g 66), .ref (g 70), .ref (g 75), .ref (g 87), .ref (g 94), .int 0, .int 0, .int 0])), ((g 16), .inr (1, [.ref (g 17), .ref (g 18), .ref (g 19), .ref (g 20), .ref (g 21), .ref (g 22), .ref (g 23), .ref (g 24), .ref (g 25), .ref (g 26), .ref (g 27)])), ((g 17), .inl ((a 17), 11, .inl (fun _ => 0)))] (fun r : Int32 => r = (-2)) (fun f => []) := by
  refine m_of (Qc := fun A => QI dC dI A (fun r : Int32 => r = (-2)) (fun f => [])) (lv := [(0, .ref (g 0))]) (by decide) (Nat.le_of_ble_eq_true rfl) rfl ?_
  intro p e s m below meth c A ls hx hb hr hml hT hown hlocks hname hP hK hD hS hA hl
  have hown : s.vm.findClass RX8 = some m.cls := hown
  refine lv_aload_n hx hb dX8_lets_0 rfl (lv_at hl 0 rfl) ?_
  refine va_get (D := (dC, dI)) (ci := 8) (v := .ref (g 16)) (C := RX8) (T := TX8) (N := 14) hx hb hT inT8 hown hK hP 0 rfl rfl 3 (by decide) (hT _ mw_45) (fun _ h9 => h9) rfl dX8_lets_1 ?_
  refine c_Vi (C := RX1) (As := []) (rest := []) (wr := [((g 0), .inr (8, [.ref (g 1), .ref (g 2), .ref (g 4), .ref (g 16), .ref (g 64), .ref (g 65), .ref (g 66), .ref (g 70), .ref (g 75), .ref (g 87), .ref (g 94), .int 0, .int 0, .int 0]))]) (n := 0) ⟨hx, hb, hml, hown, hT⟩ (k_X1_stands l dC dI g a ) hK hP hD hS hA [0] rfl [1, 2] [0] rfl rfl rfl rfl (by decide) rfl rfl mw_201 mw_202 mw_203 mw_27 mw_204 (by decide +kernel) ⟨Nat.le_of_ble_eq_true rfl, Nat.le_of_ble_eq_true rfl⟩ ⟨rfl, rfl⟩ rfl hl.1 (Nat.le_of_ble_eq_true rfl) rfl dX8_lets_4 ⟨Nat.zero_le _, Nat.zero_le _⟩ (fun r f1 H locs er hP hD hS => ?_)
  have hP : va_P (dC, dI) vwCl [((g 0), .inr (8, [.ref (g 1), .ref (g 2), .ref (g 4), .ref (g 16), .ref (g 64), .ref (g 65), .ref (g 66), .ref (g 70), .ref (g 75), .ref (g 87), .ref (g 94), .int 0, .int 0, .int 0])), ((g 16), .inr (1, [.ref (g 17), .ref (g 18), .ref (g 19), .ref (g 20), .ref (g 21), .ref (g 22), .ref (g 23), .ref (g 24), .ref (g 25), .ref (g 26), .ref (g 27)])), ((g 17), .inl ((a 17), 11, .inl (fun _ => 0)))] H := hP
  have hD : va_D A [((g 0), .inr (8, [.ref (g 1), .ref (g 2), .ref (g 4), .ref (g 16), .ref (g 64), .ref (g 65), .ref (g 66), .ref (g 70), .ref (g 75), .ref (g 87), .ref (g 94), .int 0, .int 0, .int 0])), ((g 16), .inr (1, [.ref (g 17), .ref (g 18), .ref (g 19), .ref (g 20), .ref (g 21), .ref (g 22), .ref (g 23), .ref (g 24), .ref (g 25), .ref (g 26), .ref (g 27)])), ((g 17), .inl ((a 17), 11, .inl (fun _ => 0)))] := hD
  have er : r = 0 := er
  subst er
  refine lv_if_eq (tgt := 23) hx hb dX8_lets_7 (by decide) (fun c2 => ?_) (fun c2 => ?_)
  · refine lv_bipush (v := (-2)) hx hb dX8_lets_23 (by decide) ?_
    exact e_i hx hb hr hlocks hP hD hS (fun _ => 0) [] rfl rfl rfl dX8_lets_25
  · exact absurd c2 (by decide)
set_option maxRecDepth 100000 in
set_option maxHeartbeats 4000000 in
theorem k_X9_lets (l : Launch) (dC : Nat → ClassId) (dI : Nat → Nat → Nat) (g : Nat → Nat) (a : Nat → ClassId)   : MI l dC dI yX9_lets (Cond.code yX9_lets cX9_lets 1 (some .int)) ({ frames := 1, cells := 0, slots := 0, locals := 20 }) [.ref (g 0)] [((a 1), .int)] [((g 0), .inr (9, oM g 0 0 0 0 0 0 (-1))), ((g 1), .inl ((a 1), 68, .inl (fun _ => 0)))] (fun r : Int32 => r = (-2)) (fun f => []) := by
  refine m_of (Qc := fun A => QI dC dI A (fun r : Int32 => r = (-2)) (fun f => [])) (lv := [(0, .ref (g 0))]) (by decide) (Nat.le_of_ble_eq_true rfl) rfl ?_
  intro p e s m below meth c A ls hx hb hr hml hT hown hlocks hname hP hK hD hS hA hl
  have hown : s.vm.findClass RX9 = some m.cls := hown
  refine lv_aload_n hx hb dX9_lets_0 rfl (lv_at hl 0 rfl) ?_
  refine c_Vi (C := RX9) (As := []) (rest := []) (wr := []) (n := 0) ⟨hx, hb, hml, hown, hT⟩ (k_X9_isBrigade l dC dI g a ) hK hP hD hS hA [0] rfl [0, 1] [] rfl rfl rfl rfl (by decide) rfl rfl mw_126 mw_127 mw_128 mw_19 mw_129 (by decide +kernel) ⟨Nat.le_of_ble_eq_true rfl, Nat.le_of_ble_eq_true rfl⟩ ⟨rfl, rfl⟩ rfl hl.1 (Nat.le_of_ble_eq_true rfl) rfl dX9_lets_1 ⟨Nat.zero_le _, Nat.zero_le _⟩ (fun r f1 H locs er hP hD hS => ?_)
  have hP : va_P (dC, dI) vwCl [((g 0), .inr (9, oM g 0 0 0 0 0 0 (-1))), ((g 1), .inl ((a 1), 68, .inl (fun _ => 0)))] H := hP
  have hD : va_D A [((g 0), .inr (9, oM g 0 0 0 0 0 0 (-1))), ((g 1), .inl ((a 1), 68, .inl (fun _ => 0)))] := hD
  have er : r = 0 := er
  subst er
  refine lv_if_eq (tgt := 17) hx hb dX9_lets_4 (by decide) (fun c2 => ?_) (fun c2 => ?_)
  · refine lv_bipush (v := (-2)) hx hb dX9_lets_17 (by decide) ?_
    exact e_i hx hb hr hlocks hP hD hS (fun _ => 0) [] rfl rfl rfl dX9_lets_19
  · exact absurd c2 (by decide)
set_option maxRecDepth 100000 in
set_option maxHeartbeats 4000000 in
theorem k_X8_let (l : Launch) (dC : Nat → ClassId) (dI : Nat → Nat → Nat) (g : Nat → Nat) (a : Nat → ClassId)   : MI l dC dI yX8_let (Cond.code yX8_let cX8_let 1 (some .int)) ({ frames := 1, cells := 0, slots := 0, locals := 20 }) [.ref (g 0)] [((a 17), .int)] [((g 0), .inr (8, [.ref (g 1), .ref (g 2), .ref (g 4), .ref (g 16), .ref (g 64), .ref (g 65), .ref (g 66), .ref (g 70), .ref (g 75), .ref (g 87), .ref (g 94), .int 0, .int 0, .int 0])), ((g 16), .inr (1, [.ref (g 17), .ref (g 18), .ref (g 19), .ref (g 20), .ref (g 21), .ref (g 22), .ref (g 23), .ref (g 24), .ref (g 25), .ref (g 26), .ref (g 27)])), ((g 17), .inl ((a 17), 11, .inl (fun _ => 0)))] (fun r : Int32 => r = (-2)) (fun f => []) := by
  refine m_of (Qc := fun A => QI dC dI A (fun r : Int32 => r = (-2)) (fun f => [])) (lv := [(0, .ref (g 0))]) (by decide) (Nat.le_of_ble_eq_true rfl) rfl ?_
  intro p e s m below meth c A ls hx hb hr hml hT hown hlocks hname hP hK hD hS hA hl
  have hown : s.vm.findClass RX8 = some m.cls := hown
  refine lv_aload_n hx hb dX8_let_0 rfl (lv_at hl 0 rfl) ?_
  refine va_get (D := (dC, dI)) (ci := 8) (v := .ref (g 16)) (C := RX8) (T := TX8) (N := 14) hx hb hT inT8 hown hK hP 0 rfl rfl 3 (by decide) (hT _ mw_45) (fun _ h9 => h9) rfl dX8_let_1 ?_
  refine c_Vi (C := RX1) (As := []) (rest := []) (wr := [((g 0), .inr (8, [.ref (g 1), .ref (g 2), .ref (g 4), .ref (g 16), .ref (g 64), .ref (g 65), .ref (g 66), .ref (g 70), .ref (g 75), .ref (g 87), .ref (g 94), .int 0, .int 0, .int 0]))]) (n := 0) ⟨hx, hb, hml, hown, hT⟩ (k_X1_stands l dC dI g a ) hK hP hD hS hA [0] rfl [1, 2] [0] rfl rfl rfl rfl (by decide) rfl rfl mw_201 mw_202 mw_203 mw_27 mw_204 (by decide +kernel) ⟨Nat.le_of_ble_eq_true rfl, Nat.le_of_ble_eq_true rfl⟩ ⟨rfl, rfl⟩ rfl hl.1 (Nat.le_of_ble_eq_true rfl) rfl dX8_let_4 ⟨Nat.zero_le _, Nat.zero_le _⟩ (fun r f1 H locs er hP hD hS => ?_)
  have hP : va_P (dC, dI) vwCl [((g 0), .inr (8, [.ref (g 1), .ref (g 2), .ref (g 4), .ref (g 16), .ref (g 64), .ref (g 65), .ref (g 66), .ref (g 70), .ref (g 75), .ref (g 87), .ref (g 94), .int 0, .int 0, .int 0])), ((g 16), .inr (1, [.ref (g 17), .ref (g 18), .ref (g 19), .ref (g 20), .ref (g 21), .ref (g 22), .ref (g 23), .ref (g 24), .ref (g 25), .ref (g 26), .ref (g 27)])), ((g 17), .inl ((a 17), 11, .inl (fun _ => 0)))] H := hP
  have hD : va_D A [((g 0), .inr (8, [.ref (g 1), .ref (g 2), .ref (g 4), .ref (g 16), .ref (g 64), .ref (g 65), .ref (g 66), .ref (g 70), .ref (g 75), .ref (g 87), .ref (g 94), .int 0, .int 0, .int 0])), ((g 16), .inr (1, [.ref (g 17), .ref (g 18), .ref (g 19), .ref (g 20), .ref (g 21), .ref (g 22), .ref (g 23), .ref (g 24), .ref (g 25), .ref (g 26), .ref (g 27)])), ((g 17), .inl ((a 17), 11, .inl (fun _ => 0)))] := hD
  have er : r = 0 := er
  subst er
  refine lv_if_eq (tgt := 20) hx hb dX8_let_7 (by decide) (fun c2 => ?_) (fun c2 => ?_)
  · refine lv_bipush (v := (-2)) hx hb dX8_let_20 (by decide) ?_
    exact e_i hx hb hr hlocks hP hD hS (fun _ => 0) [] rfl rfl rfl dX8_let_22
  · exact absurd c2 (by decide)
set_option maxRecDepth 100000 in
set_option maxHeartbeats 4000000 in
theorem k_X9_let (l : Launch) (dC : Nat → ClassId) (dI : Nat → Nat → Nat) (g : Nat → Nat) (a : Nat → ClassId)   : MI l dC dI yX9_let (Cond.code yX9_let cX9_let 1 (some .int)) ({ frames := 1, cells := 0, slots := 0, locals := 20 }) [.ref (g 0)] [((a 1), .int)] [((g 0), .inr (9, oM g 0 0 0 0 0 0 (-1))), ((g 1), .inl ((a 1), 68, .inl (fun _ => 0)))] (fun r : Int32 => r = (-2)) (fun f => []) := by
  refine m_of (Qc := fun A => QI dC dI A (fun r : Int32 => r = (-2)) (fun f => [])) (lv := [(0, .ref (g 0))]) (by decide) (Nat.le_of_ble_eq_true rfl) rfl ?_
  intro p e s m below meth c A ls hx hb hr hml hT hown hlocks hname hP hK hD hS hA hl
  have hown : s.vm.findClass RX9 = some m.cls := hown
  refine lv_aload_n hx hb dX9_let_0 rfl (lv_at hl 0 rfl) ?_
  refine c_Vi (C := RX9) (As := []) (rest := []) (wr := []) (n := 0) ⟨hx, hb, hml, hown, hT⟩ (k_X9_isBrigade l dC dI g a ) hK hP hD hS hA [0] rfl [0, 1] [] rfl rfl rfl rfl (by decide) rfl rfl mw_126 mw_127 mw_128 mw_19 mw_129 (by decide +kernel) ⟨Nat.le_of_ble_eq_true rfl, Nat.le_of_ble_eq_true rfl⟩ ⟨rfl, rfl⟩ rfl hl.1 (Nat.le_of_ble_eq_true rfl) rfl dX9_let_1 ⟨Nat.zero_le _, Nat.zero_le _⟩ (fun r f1 H locs er hP hD hS => ?_)
  have hP : va_P (dC, dI) vwCl [((g 0), .inr (9, oM g 0 0 0 0 0 0 (-1))), ((g 1), .inl ((a 1), 68, .inl (fun _ => 0)))] H := hP
  have hD : va_D A [((g 0), .inr (9, oM g 0 0 0 0 0 0 (-1))), ((g 1), .inl ((a 1), 68, .inl (fun _ => 0)))] := hD
  have er : r = 0 := er
  subst er
  refine lv_if_eq (tgt := 14) hx hb dX9_let_4 (by decide) (fun c2 => ?_) (fun c2 => ?_)
  · refine lv_bipush (v := (-2)) hx hb dX9_let_14 (by decide) ?_
    exact e_i hx hb hr hlocks hP hD hS (fun _ => 0) [] rfl rfl rfl dX9_let_16
  · exact absurd c2 (by decide)
set_option maxRecDepth 100000 in
set_option maxHeartbeats 4000000 in
theorem k_X5_isSlot (l : Launch) (dC : Nat → ClassId) (dI : Nat → Nat → Nat) (g : Nat → Nat) (a : Nat → ClassId) (p0 : Int32)  : MI l dC dI yX5_isSlot (Cond.code yX5_isSlot cX5_isSlot 2 (some .boolean)) ({ frames := 0, cells := 0, slots := 0, locals := 0 }) [.ref (g 66), .int p0] [] [((g 66), .inr (5, [.ref (g 67), .ref (g 68), .ref (g 69)]))] (fun r : Int32 => r = if 0 ≤ p0.toInt ∧ p0.toInt ≤ 3 then 1 else 0) (fun f => [((g 66), .inr (5, [.ref (g 67), .ref (g 68), .ref (g 69)]))]) := by
  refine m_of (Qc := fun A => QI dC dI A (fun r : Int32 => r = if 0 ≤ p0.toInt ∧ p0.toInt ≤ 3 then 1 else 0) (fun f => [((g 66), .inr (5, [.ref (g 67), .ref (g 68), .ref (g 69)]))])) (lv := [(0, .ref (g 66)), (1, .int p0)]) (by decide) (Nat.le_of_ble_eq_true rfl) rfl ?_
  intro p e s m below meth c A ls hx hb hr hml hT hown hlocks hname hP hK hD hS hA hl
  have hown : s.vm.findClass RX5 = some m.cls := hown
  refine lv_iload_n hx hb dX5_isSlot_0 rfl (lv_at hl 1 rfl) ?_
  refine lv_if_lt (tgt := 13) hx hb dX5_isSlot_1 (by decide) (fun c1 => ?_) (fun c1 => ?_)
  · have c1 := i_lt p0.toInt 0 rfl (by decide) c1
    refine lv_iconst (v := 0) hx hb dX5_isSlot_13 (by decide) ?_
    exact e_z hx hb hr hlocks hP hD hS (fun _ => 0) [0] rfl rfl ((if_neg (by omega)).symm) rfl dX5_isSlot_14
  · have c1 := i_nlt p0.toInt 0 rfl (by decide) c1
    refine lv_iload_n hx hb dX5_isSlot_4 rfl (lv_at hl 1 rfl) ?_
    refine lv_iconst (v := 4) hx hb dX5_isSlot_5 (by decide) ?_
    refine lv_icmp_ge (tgt := 13) hx hb dX5_isSlot_6 (by decide) (fun c2 => ?_) (fun c2 => ?_)
    · have c2 := i_le 4 p0.toInt (by decide) rfl c2
      refine lv_iconst (v := 0) hx hb dX5_isSlot_13 (by decide) ?_
      exact e_z hx hb hr hlocks hP hD hS (fun _ => 0) [0] rfl rfl ((if_neg (by omega)).symm) rfl dX5_isSlot_14
    · have c2 := i_nle 4 p0.toInt (by decide) rfl c2
      refine lv_iconst (v := 1) hx hb dX5_isSlot_9 (by decide) ?_
      refine lv_goto (tgt := 14) hx hb dX5_isSlot_10 (by decide) ?_
      exact e_z hx hb hr hlocks hP hD hS (fun _ => 0) [0] rfl rfl ((if_pos (by omega)).symm) rfl dX5_isSlot_14
