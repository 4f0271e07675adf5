set_option maxRecDepth 100000 in
set_option maxHeartbeats 4000000 in
theorem k_X8_seenRefusal (l : Launch) (dC : Nat → ClassId) (dI : Nat → Nat → Nat) (g : Nat → Nat) (a : Nat → ClassId) (p0 : Int32)  : MI l dC dI yX8_seenRefusal (Cond.code yX8_seenRefusal cX8_seenRefusal 8 (some .int)) ({ frames := 1, cells := 0, slots := 0, locals := 21 }) [.ref (g 0), .int p0] [((a 17), .int)] [((g 0), .inr (8, [.ref (g 1), .ref (g 2), .ref (g 4), .ref (g 16), .ref (g 64), .ref (g 65), .ref (g 66), .ref (g 70), .ref (g 75), .ref (g 87), .ref (g 94), .int 0, .int 0, .int 0])), ((g 66), .inr (5, [.ref (g 67), .ref (g 68), .ref (g 69)])), ((g 16), .inr (1, [.ref (g 17), .ref (g 18), .ref (g 19), .ref (g 20), .ref (g 21), .ref (g 22), .ref (g 23), .ref (g 24), .ref (g 25), .ref (g 26), .ref (g 27)])), ((g 17), .inl ((a 17), 11, .inl (fun _ => 0)))] (fun r : Int32 => r = (-2)) (fun f => [((g 0), .inr (8, [.ref (g 1), .ref (g 2), .ref (g 4), .ref (g 16), .ref (g 64), .ref (g 65), .ref (g 66), .ref (g 70), .ref (g 75), .ref (g 87), .ref (g 94), .int 0, .int 0, .int 0])), ((g 66), .inr (5, [.ref (g 67), .ref (g 68), .ref (g 69)])), ((g 16), .inr (1, [.ref (g 17), .ref (g 18), .ref (g 19), .ref (g 20), .ref (g 21), .ref (g 22), .ref (g 23), .ref (g 24), .ref (g 25), .ref (g 26), .ref (g 27)])), ((g 17), .inl ((a 17), 11, .inl (fun _ => 0)))]) := by
  refine m_of (Qc := fun A => QI dC dI A (fun r : Int32 => r = (-2)) (fun f => [((g 0), .inr (8, [.ref (g 1), .ref (g 2), .ref (g 4), .ref (g 16), .ref (g 64), .ref (g 65), .ref (g 66), .ref (g 70), .ref (g 75), .ref (g 87), .ref (g 94), .int 0, .int 0, .int 0])), ((g 66), .inr (5, [.ref (g 67), .ref (g 68), .ref (g 69)])), ((g 16), .inr (1, [.ref (g 17), .ref (g 18), .ref (g 19), .ref (g 20), .ref (g 21), .ref (g 22), .ref (g 23), .ref (g 24), .ref (g 25), .ref (g 26), .ref (g 27)])), ((g 17), .inl ((a 17), 11, .inl (fun _ => 0)))])) (lv := [(0, .ref (g 0)), (1, .int p0)]) (by decide) (Nat.le_of_ble_eq_true rfl) rfl ?_
  intro p e s m below meth c A ls hx hb hr hml hT hown hlocks hname hP hK hD hS hA hl
  have hown : s.vm.findClass RX8 = some m.cls := hown
  refine lv_aload_n hx hb dX8_seenRefusal_0 rfl (lv_at hl 0 rfl) ?_
  refine va_get (D := (dC, dI)) (ci := 8) (v := .ref (g 66)) (C := RX8) (T := TX8) (N := 14) hx hb hT inT8 hown hK hP 0 rfl rfl 6 (by decide) (hT _ mw_222) (fun _ h9 => h9) rfl dX8_seenRefusal_1 ?_
  refine lv_iload_n hx hb dX8_seenRefusal_4 rfl (lv_at hl 1 rfl) ?_
  refine c_Vi (C := RX5) (As := [.int p0]) (rest := []) (wr := [((g 0), .inr (8, [.ref (g 1), .ref (g 2), .ref (g 4), .ref (g 16), .ref (g 64), .ref (g 65), .ref (g 66), .ref (g 70), .ref (g 75), .ref (g 87), .ref (g 94), .int 0, .int 0, .int 0])), ((g 16), .inr (1, [.ref (g 17), .ref (g 18), .ref (g 19), .ref (g 20), .ref (g 21), .ref (g 22), .ref (g 23), .ref (g 24), .ref (g 25), .ref (g 26), .ref (g 27)])), ((g 17), .inl ((a 17), 11, .inl (fun _ => 0)))]) (n := 1) ⟨hx, hb, hml, hown, hT⟩ (k_X5_isSlot l dC dI g a p0) hK hP hD hS hA [] rfl [1] [0, 2, 3] rfl rfl rfl rfl (by decide) rfl rfl mw_223 mw_224 mw_225 mw_226 mw_227 (by decide +kernel) ⟨Nat.le_of_ble_eq_true rfl, Nat.le_of_ble_eq_true rfl⟩ ⟨rfl, rfl⟩ rfl hl.1 (Nat.le_of_ble_eq_true rfl) rfl dX8_seenRefusal_5 ⟨Nat.zero_le _, Nat.zero_le _⟩ (fun r f1 H locs er hP hD hS => ?_)
  have hP : va_P (dC, dI) vwCl [((g 0), .inr (8, [.ref (g 1), .ref (g 2), .ref (g 4), .ref (g 16), .ref (g 64), .ref (g 65), .ref (g 66), .ref (g 70), .ref (g 75), .ref (g 87), .ref (g 94), .int 0, .int 0, .int 0])), ((g 16), .inr (1, [.ref (g 17), .ref (g 18), .ref (g 19), .ref (g 20), .ref (g 21), .ref (g 22), .ref (g 23), .ref (g 24), .ref (g 25), .ref (g 26), .ref (g 27)])), ((g 17), .inl ((a 17), 11, .inl (fun _ => 0))), ((g 66), .inr (5, [.ref (g 67), .ref (g 68), .ref (g 69)]))] H := hP
  have hD : va_D A [((g 0), .inr (8, [.ref (g 1), .ref (g 2), .ref (g 4), .ref (g 16), .ref (g 64), .ref (g 65), .ref (g 66), .ref (g 70), .ref (g 75), .ref (g 87), .ref (g 94), .int 0, .int 0, .int 0])), ((g 16), .inr (1, [.ref (g 17), .ref (g 18), .ref (g 19), .ref (g 20), .ref (g 21), .ref (g 22), .ref (g 23), .ref (g 24), .ref (g 25), .ref (g 26), .ref (g 27)])), ((g 17), .inl ((a 17), 11, .inl (fun _ => 0))), ((g 66), .inr (5, [.ref (g 67), .ref (g 68), .ref (g 69)]))] := hD
  by_cases hc : 0 ≤ p0.toInt ∧ p0.toInt ≤ 3
  · have er : r = 1 := er.trans (if_pos hc)
    subst er
    refine lv_if_eq (tgt := 21) hx hb dX8_seenRefusal_8 (by decide) (fun c2 => ?_) (fun c2 => ?_)
    · exact absurd c2 (by decide)
    · refine lv_aload_n hx hb dX8_seenRefusal_11 rfl (lv_at hl 0 rfl) ?_
      refine va_get (D := (dC, dI)) (ci := 8) (v := .ref (g 16)) (C := RX8) (T := TX8) (N := 14) hx hb hT inT8 hown hK hP 0 rfl rfl 3 (by decide) (hT _ mw_45) (fun _ h9 => h9) rfl dX8_seenRefusal_12 ?_
      refine c_Vi (C := RX1) (As := []) (rest := []) (wr := [((g 0), .inr (8, [.ref (g 1), .ref (g 2), .ref (g 4), .ref (g 16), .ref (g 64), .ref (g 65), .ref (g 66), .ref (g 70), .ref (g 75), .ref (g 87), .ref (g 94), .int 0, .int 0, .int 0])), ((g 66), .inr (5, [.ref (g 67), .ref (g 68), .ref (g 69)]))]) (n := 0) ⟨hx, hb, hml, hown, hT⟩ (k_X1_stands l dC dI g a ) hK hP hD hS hA [0] rfl [1, 2] [0, 3] rfl rfl rfl rfl (by decide) rfl rfl mw_201 mw_202 mw_203 mw_27 mw_204 (by decide +kernel) ⟨Nat.le_of_ble_eq_true rfl, Nat.le_of_ble_eq_true rfl⟩ ⟨rfl, rfl⟩ rfl hl.1 (Nat.le_of_ble_eq_true rfl) rfl dX8_seenRefusal_15 ⟨Nat.zero_le _, Nat.zero_le _⟩ (fun r f3 H locs er hP hD hS => ?_)
      have hP : va_P (dC, dI) vwCl [((g 0), .inr (8, [.ref (g 1), .ref (g 2), .ref (g 4), .ref (g 16), .ref (g 64), .ref (g 65), .ref (g 66), .ref (g 70), .ref (g 75), .ref (g 87), .ref (g 94), .int 0, .int 0, .int 0])), ((g 66), .inr (5, [.ref (g 67), .ref (g 68), .ref (g 69)])), ((g 16), .inr (1, [.ref (g 17), .ref (g 18), .ref (g 19), .ref (g 20), .ref (g 21), .ref (g 22), .ref (g 23), .ref (g 24), .ref (g 25), .ref (g 26), .ref (g 27)])), ((g 17), .inl ((a 17), 11, .inl (fun _ => 0)))] H := hP
      have hD : va_D A [((g 0), .inr (8, [.ref (g 1), .ref (g 2), .ref (g 4), .ref (g 16), .ref (g 64), .ref (g 65), .ref (g 66), .ref (g 70), .ref (g 75), .ref (g 87), .ref (g 94), .int 0, .int 0, .int 0])), ((g 66), .inr (5, [.ref (g 67), .ref (g 68), .ref (g 69)])), ((g 16), .inr (1, [.ref (g 17), .ref (g 18), .ref (g 19), .ref (g 20), .ref (g 21), .ref (g 22), .ref (g 23), .ref (g 24), .ref (g 25), .ref (g 26), .ref (g 27)])), ((g 17), .inl ((a 17), 11, .inl (fun _ => 0)))] := hD
      have er : r = 0 := er
      subst er
      refine lv_if_ne (tgt := 24) hx hb dX8_seenRefusal_18 (by decide) (fun c4 => ?_) (fun c4 => ?_)
      · exact absurd c4 (by decide)
      · refine lv_bipush (v := (-2)) hx hb dX8_seenRefusal_21 (by decide) ?_
        exact e_i hx hb hr hlocks hP hD hS (fun _ => 0) [0, 1, 2, 3] rfl rfl rfl dX8_seenRefusal_23
  · have er : r = 0 := er.trans (if_neg hc)
    subst er
    refine lv_if_eq (tgt := 21) hx hb dX8_seenRefusal_8 (by decide) (fun c5 => ?_) (fun c5 => ?_)
    · refine lv_bipush (v := (-2)) hx hb dX8_seenRefusal_21 (by decide) ?_
      exact e_i hx hb hr hlocks hP hD hS (fun _ => 0) [0, 3, 1, 2] rfl rfl rfl dX8_seenRefusal_23
    · exact absurd c5 (by decide)
set_option maxRecDepth 100000 in
set_option maxHeartbeats 4000000 in
theorem k_X8_fits (l : Launch) (dC : Nat → ClassId) (dI : Nat → Nat → Nat) (g : Nat → Nat) (a : Nat → ClassId) (p0 : Int32)  : MI l dC dI yX8_fits (Cond.code yX8_fits cX8_fits 3 (some .int)) ({ frames := 2, cells := 0, slots := 0, locals := 48 }) [.ref (g 0), .int p0] [((a 17), .int)] [((g 0), .inr (8, [.ref (g 1), .ref (g 2), .ref (g 4), .ref (g 16), .ref (g 64), .ref (g 65), .ref (g 66), .ref (g 70), .ref (g 75), .ref (g 87), .ref (g 94), .int 0, .int 0, .int 0])), ((g 66), .inr (5, [.ref (g 67), .ref (g 68), .ref (g 69)])), ((g 16), .inr (1, [.ref (g 17), .ref (g 18), .ref (g 19), .ref (g 20), .ref (g 21), .ref (g 22), .ref (g 23), .ref (g 24), .ref (g 25), .ref (g 26), .ref (g 27)])), ((g 17), .inl ((a 17), 11, .inl (fun _ => 0)))] (fun r : Int32 => r = (-2)) (fun f => []) := by
  refine m_of (Qc := fun A => QI dC dI A (fun r : Int32 => r = (-2)) (fun f => [])) (lv := [(0, .ref (g 0)), (1, .int p0)]) (by decide) (Nat.le_of_ble_eq_true rfl) rfl ?_
  intro p e s m below meth c A ls hx hb hr hml hT hown hlocks hname hP hK hD hS hA hl
  have hown : s.vm.findClass RX8 = some m.cls := hown
  refine lv_aload_n hx hb dX8_fits_0 rfl (lv_at hl 0 rfl) ?_
  refine lv_iload_n hx hb dX8_fits_1 rfl (lv_at hl 1 rfl) ?_
  refine c_Vi (C := RX8) (As := [.int p0]) (rest := []) (wr := []) (n := 1) ⟨hx, hb, hml, hown, hT⟩ (k_X8_seenRefusal l dC dI g a p0) hK hP hD hS hA [0] rfl [0, 1, 2, 3] [] rfl rfl rfl rfl (by decide) rfl rfl mw_228 mw_229 mw_230 mw_69 mw_231 (by decide +kernel) ⟨Nat.le_of_ble_eq_true rfl, Nat.le_of_ble_eq_true rfl⟩ ⟨rfl, rfl⟩ rfl hl.1 (Nat.le_of_ble_eq_true rfl) rfl dX8_fits_2 ⟨Nat.zero_le _, Nat.zero_le _⟩ (fun r f1 H locs er hP hD hS => ?_)
  have hP : va_P (dC, dI) vwCl [((g 0), .inr (8, [.ref (g 1), .ref (g 2), .ref (g 4), .ref (g 16), .ref (g 64), .ref (g 65), .ref (g 66), .ref (g 70), .ref (g 75), .ref (g 87), .ref (g 94), .int 0, .int 0, .int 0])), ((g 66), .inr (5, [.ref (g 67), .ref (g 68), .ref (g 69)])), ((g 16), .inr (1, [.ref (g 17), .ref (g 18), .ref (g 19), .ref (g 20), .ref (g 21), .ref (g 22), .ref (g 23), .ref (g 24), .ref (g 25), .ref (g 26), .ref (g 27)])), ((g 17), .inl ((a 17), 11, .inl (fun _ => 0)))] H := hP
  have hD : va_D A [((g 0), .inr (8, [.ref (g 1), .ref (g 2), .ref (g 4), .ref (g 16), .ref (g 64), .ref (g 65), .ref (g 66), .ref (g 70), .ref (g 75), .ref (g 87), .ref (g 94), .int 0, .int 0, .int 0])), ((g 66), .inr (5, [.ref (g 67), .ref (g 68), .ref (g 69)])), ((g 16), .inr (1, [.ref (g 17), .ref (g 18), .ref (g 19), .ref (g 20), .ref (g 21), .ref (g 22), .ref (g 23), .ref (g 24), .ref (g 25), .ref (g 26), .ref (g 27)])), ((g 17), .inl ((a 17), 11, .inl (fun _ => 0)))] := hD
  have er : r = (-2) := er
  subst er
  refine lv_istore_n (lv' := [(2, .int (-2)), (0, .ref (g 0)), (1, .int p0)]) hx hb dX8_fits_5 rfl hl (by decide) rfl (fun ls hl => ?_)
  refine lv_iload_n hx hb dX8_fits_6 rfl (lv_at hl 0 rfl) ?_
  refine lv_if_eq (tgt := 12) hx hb dX8_fits_7 (by decide) (fun c2 => ?_) (fun c2 => ?_)
  · exact absurd c2 (by decide)
  · refine lv_iload_n hx hb dX8_fits_10 rfl (lv_at hl 0 rfl) ?_
    exact e_i hx hb hr hlocks hP hD hS (fun _ => 0) [] rfl rfl rfl dX8_fits_11
set_option maxRecDepth 100000 in
set_option maxHeartbeats 4000000 in
theorem k_X9_isSlot (l : Launch) (dC : Nat → ClassId) (dI : Nat → Nat → Nat) (g : Nat → Nat) (a : Nat → ClassId) (p0 : Int32)  : MI l dC dI yX9_isSlot (Cond.code yX9_isSlot cX9_isSlot 1 (some .boolean)) ({ frames := 1, cells := 0, slots := 0, locals := 25 }) [.int p0] [] [] (fun r : Int32 => r = if 0 ≤ p0.toInt ∧ p0.toInt ≤ 3 then 1 else 0) (fun f => []) := by
  refine m_of (Qc := fun A => QI dC dI A (fun r : Int32 => r = if 0 ≤ p0.toInt ∧ p0.toInt ≤ 3 then 1 else 0) (fun f => [])) (lv := [(0, .int p0)]) (by decide) (Nat.le_of_ble_eq_true rfl) rfl ?_
  intro p e s m below meth c A ls hx hb hr hml hT hown hlocks hname hP hK hD hS hA hl
  have hown : s.vm.findClass RX9 = some m.cls := hown
  refine lv_iload_n hx hb dX9_isSlot_0 rfl (lv_at hl 0 rfl) ?_
  refine lv_i2l (v := p0.toInt64) hx hb dX9_isSlot_1 rfl ?_
  refine lv_lconst (v := 0) hx hb dX9_isSlot_2 (by decide) ?_
  refine lv_ldc2 (v := 3) hx hb hown (hT _ mw_232) dX9_isSlot_3 ?_
  refine c_Si (As := [.long p0.toInt64, .long 0, .long 3]) (rest := []) (wr := []) (n := 3) ⟨hx, hb, hml, hown, hT⟩ (k_X9_in l dC dI g a p0.toInt64 0 3 p0.toInt 0 3 (Int32.toInt_toInt64 _) (by decide) (by decide)) hK hP hD hS hA [] rfl [] [] rfl rfl rfl rfl (by decide) mw_17 mw_18 mw_19 mw_20 (by decide +kernel) ⟨Nat.le_of_ble_eq_true rfl, Nat.le_of_ble_eq_true rfl⟩ ⟨rfl, rfl⟩ rfl hl.1 (Nat.le_of_ble_eq_true rfl) rfl dX9_isSlot_6 ⟨Nat.zero_le _, Nat.zero_le _⟩ (fun r f1 H locs er hP hD hS => ?_)
  have hP : va_P (dC, dI) vwCl [] H := hP
  have hD : va_D A [] := hD
  by_cases hc : (0 : Int) ≤ p0.toInt ∧ p0.toInt ≤ (3 : Int)
  · have er : r = 1 := er.trans (if_pos hc)
    subst er
    exact e_z hx hb hr hlocks hP hD hS (fun _ => 0) [] rfl rfl ((if_pos (by omega)).symm) rfl dX9_isSlot_9
  · have er : r = 0 := er.trans (if_neg hc)
    subst er
    exact e_z hx hb hr hlocks hP hD hS (fun _ => 0) [] rfl rfl ((if_neg (by omega)).symm) rfl dX9_isSlot_9
set_option maxRecDepth 100000 in
set_option maxHeartbeats 4000000 in
theorem k_X9_layFits (l : Launch) (dC : Nat → ClassId) (dI : Nat → Nat → Nat) (g : Nat → Nat) (a : Nat → ClassId) (p0 : Int32)  : MI l dC dI yX9_layFits (Cond.code yX9_layFits cX9_layFits 4 (some .int)) ({ frames := 2, cells := 0, slots := 0, locals := 45 }) [.ref (g 0), .int p0] [((a 1), .int)] [((g 0), .inr (9, oM g 0 0 0 0 0 0 (-1))), ((g 1), .inl ((a 1), 68, .inl (fun _ => 0)))] (fun r : Int32 => r = (-2)) (fun f => [((g 0), .inr (9, oM g 0 0 0 0 0 0 (-1))), ((g 1), .inl ((a 1), 68, .inl (fun _ => 0)))]) := by
  refine m_of (Qc := fun A => QI dC dI A (fun r : Int32 => r = (-2)) (fun f => [((g 0), .inr (9, oM g 0 0 0 0 0 0 (-1))), ((g 1), .inl ((a 1), 68, .inl (fun _ => 0)))])) (lv := [(0, .ref (g 0)), (1, .int p0)]) (by decide) (Nat.le_of_ble_eq_true rfl) rfl ?_
  intro p e s m below meth c A ls hx hb hr hml hT hown hlocks hname hP hK hD hS hA hl
  have hown : s.vm.findClass RX9 = some m.cls := hown
  refine lv_iload_n hx hb dX9_layFits_0 rfl (lv_at hl 1 rfl) ?_
  refine c_Si (As := [.int p0]) (rest := []) (wr := [((g 0), .inr (9, oM g 0 0 0 0 0 0 (-1))), ((g 1), .inl ((a 1), 68, .inl (fun _ => 0)))]) (n := 1) ⟨hx, hb, hml, hown, hT⟩ (k_X9_isSlot l dC dI g a p0) hK hP hD hS hA [] rfl [] [0, 1] rfl rfl rfl rfl (by decide) mw_233 mw_234 mw_19 mw_235 (by decide +kernel) ⟨Nat.le_of_ble_eq_true rfl, Nat.le_of_ble_eq_true rfl⟩ ⟨rfl, rfl⟩ rfl hl.1 (Nat.le_of_ble_eq_true rfl) rfl dX9_layFits_1 ⟨Nat.zero_le _, Nat.zero_le _⟩ (fun r f1 H locs er hP hD hS => ?_)
  have hP : va_P (dC, dI) vwCl [((g 0), .inr (9, oM g 0 0 0 0 0 0 (-1))), ((g 1), .inl ((a 1), 68, .inl (fun _ => 0)))] H := hP
  have hD : va_D A [((g 0), .inr (9, oM g 0 0 0 0 0 0 (-1))), ((g 1), .inl ((a 1), 68, .inl (fun _ => 0)))] := hD
  by_cases hc : 0 ≤ p0.toInt ∧ p0.toInt ≤ 3
  · have er : r = 1 := er.trans (if_pos hc)
    subst er
    refine lv_if_eq (tgt := 14) hx hb dX9_layFits_4 (by decide) (fun c2 => ?_) (fun c2 => ?_)
    · exact absurd c2 (by decide)
    · refine lv_aload_n hx hb dX9_layFits_7 rfl (lv_at hl 0 rfl) ?_
      refine c_Vi (C := RX9) (As := []) (rest := []) (wr := []) (n := 0) ⟨hx, hb, hml, hown, hT⟩ (k_X9_isBrigade l dC dI g a ) hK hP hD hS hA [0] rfl [0, 1] [] rfl rfl rfl rfl (by decide) rfl rfl mw_126 mw_127 mw_128 mw_19 mw_129 (by decide +kernel) ⟨Nat.le_of_ble_eq_true rfl, Nat.le_of_ble_eq_true rfl⟩ ⟨rfl, rfl⟩ rfl hl.1 (Nat.le_of_ble_eq_true rfl) rfl dX9_layFits_8 ⟨Nat.zero_le _, Nat.zero_le _⟩ (fun r f3 H locs er hP hD hS => ?_)
      have hP : va_P (dC, dI) vwCl [((g 0), .inr (9, oM g 0 0 0 0 0 0 (-1))), ((g 1), .inl ((a 1), 68, .inl (fun _ => 0)))] H := hP
      have hD : va_D A [((g 0), .inr (9, oM g 0 0 0 0 0 0 (-1))), ((g 1), .inl ((a 1), 68, .inl (fun _ => 0)))] := hD
      have er : r = 0 := er
      subst er
      refine lv_if_ne (tgt := 17) hx hb dX9_layFits_11 (by decide) (fun c4 => ?_) (fun c4 => ?_)
      · exact absurd c4 (by decide)
      · refine lv_bipush (v := (-2)) hx hb dX9_layFits_14 (by decide) ?_
        exact e_i hx hb hr hlocks hP hD hS (fun _ => 0) [0, 1] rfl rfl rfl dX9_layFits_16
  · have er : r = 0 := er.trans (if_neg hc)
    subst er
    refine lv_if_eq (tgt := 14) hx hb dX9_layFits_4 (by decide) (fun c5 => ?_) (fun c5 => ?_)
    · refine lv_bipush (v := (-2)) hx hb dX9_layFits_14 (by decide) ?_
      exact e_i hx hb hr hlocks hP hD hS (fun _ => 0) [0, 1] rfl rfl rfl dX9_layFits_16
    · exact absurd c5 (by decide)
set_option maxRecDepth 100000 in
set_option maxHeartbeats 4000000 in
theorem k_X9_fits (l : Launch) (dC : Nat → ClassId) (dI : Nat → Nat → Nat) (g : Nat → Nat) (a : Nat → ClassId) (p0 : Int32)  : MI l dC dI yX9_fits (Cond.code yX9_fits cX9_fits 3 (some .int)) ({ frames := 3, cells := 0, slots := 0, locals := 68 }) [.ref (g 0), .int p0] [((a 1), .int)] [((g 0), .inr (9, oM g 0 0 0 0 0 0 (-1))), ((g 1), .inl ((a 1), 68, .inl (fun _ => 0)))] (fun r : Int32 => r = (-2)) (fun f => []) := by
  refine m_of (Qc := fun A => QI dC dI A (fun r : Int32 => r = (-2)) (fun f => [])) (lv := [(0, .ref (g 0)), (1, .int p0)]) (by decide) (Nat.le_of_ble_eq_true rfl) rfl ?_
  intro p e s m below meth c A ls hx hb hr hml hT hown hlocks hname hP hK hD hS hA hl
  have hown : s.vm.findClass RX9 = some m.cls := hown
  refine lv_aload_n hx hb dX9_fits_0 rfl (lv_at hl 0 rfl) ?_
  refine lv_iload_n hx hb dX9_fits_1 rfl (lv_at hl 1 rfl) ?_
  refine c_Vi (C := RX9) (As := [.int p0]) (rest := []) (wr := []) (n := 1) ⟨hx, hb, hml, hown, hT⟩ (k_X9_layFits l dC dI g a p0) hK hP hD hS hA [0] rfl [0, 1] [] rfl rfl rfl rfl (by decide) rfl rfl mw_236 mw_237 mw_238 mw_19 mw_239 (by decide +kernel) ⟨Nat.le_of_ble_eq_true rfl, Nat.le_of_ble_eq_true rfl⟩ ⟨rfl, rfl⟩ rfl hl.1 (Nat.le_of_ble_eq_true rfl) rfl dX9_fits_2 ⟨Nat.zero_le _, Nat.zero_le _⟩ (fun r f1 H locs er hP hD hS => ?_)
  have hP : va_P (dC, dI) vwCl [((g 0), .inr (9, oM g 0 0 0 0 0 0 (-1))), ((g 1), .inl ((a 1), 68, .inl (fun _ => 0)))] H := hP
  have hD : va_D A [((g 0), .inr (9, oM g 0 0 0 0 0 0 (-1))), ((g 1), .inl ((a 1), 68, .inl (fun _ => 0)))] := hD
  have er : r = (-2) := er
  subst er
  refine lv_istore_n (lv' := [(2, .int (-2)), (0, .ref (g 0)), (1, .int p0)]) hx hb dX9_fits_5 rfl hl (by decide) rfl (fun ls hl => ?_)
  refine lv_iload_n hx hb dX9_fits_6 rfl (lv_at hl 0 rfl) ?_
  refine lv_if_ge (tgt := 14) hx hb dX9_fits_7 (by decide) (fun c2 => ?_) (fun c2 => ?_)
  · exact absurd c2 (by decide)
  · refine lv_iload_n hx hb dX9_fits_10 rfl (lv_at hl 0 rfl) ?_
    refine lv_goto (tgt := 18) hx hb dX9_fits_11 (by decide) ?_
    exact e_i hx hb hr hlocks hP hD hS (fun _ => 0) [] rfl rfl rfl dX9_fits_18
set_option maxRecDepth 100000 in
set_option maxHeartbeats 4000000 in
theorem k_X8_may (l : Launch) (dC : Nat → ClassId) (dI : Nat → Nat → Nat) (g : Nat → Nat) (a : Nat → ClassId) (p0 : Int32) (p1 : Int32)  : MI l dC dI yX8_may (Cond.code yX8_may cX8_may 4 (some .int)) ({ frames := 1, cells := 0, slots := 0, locals := 21 }) [.ref (g 0), .int p0, .int p1] [((a 17), .int)] [((g 0), .inr (8, [.ref (g 1), .ref (g 2), .ref (g 4), .ref (g 16), .ref (g 64), .ref (g 65), .ref (g 66), .ref (g 70), .ref (g 75), .ref (g 87), .ref (g 94), .int 0, .int 0, .int 0])), ((g 16), .inr (1, [.ref (g 17), .ref (g 18), .ref (g 19), .ref (g 20), .ref (g 21), .ref (g 22), .ref (g 23), .ref (g 24), .ref (g 25), .ref (g 26), .ref (g 27)])), ((g 17), .inl ((a 17), 11, .inl (fun _ => 0)))] (fun r : Int32 => r = (-2)) (fun f => []) := by
  refine m_of (Qc := fun A => QI dC dI A (fun r : Int32 => r = (-2)) (fun f => [])) (lv := [(0, .ref (g 0)), (1, .int p0), (2, .int p1)]) (by decide) (Nat.le_of_ble_eq_true rfl) rfl ?_
  intro p e s m below meth c A ls hx hb hr hml hT hown hlocks hname hP hK hD hS hA hl
  have hown : s.vm.findClass RX8 = some m.cls := hown
  refine lv_aload_n hx hb dX8_may_0 rfl (lv_at hl 0 rfl) ?_
  refine va_get (D := (dC, dI)) (ci := 8) (v := .ref (g 16)) (C := RX8) (T := TX8) (N := 14) hx hb hT inT8 hown hK hP 0 rfl rfl 3 (by decide) (hT _ mw_45) (fun _ h9 => h9) rfl dX8_may_1 ?_
  refine lv_iload_n hx hb dX8_may_4 rfl (lv_at hl 2 rfl) ?_
  refine c_Vi (C := RX1) (As := [.int p1]) (rest := []) (wr := [((g 0), .inr (8, [.ref (g 1), .ref (g 2), .ref (g 4), .ref (g 16), .ref (g 64), .ref (g 65), .ref (g 66), .ref (g 70), .ref (g 75), .ref (g 87), .ref (g 94), .int 0, .int 0, .int 0]))]) (n := 1) ⟨hx, hb, hml, hown, hT⟩ (k_X1_hasHand l dC dI g a p1) hK hP hD hS hA [0] rfl [1, 2] [0] rfl rfl rfl rfl (by decide) rfl rfl mw_99 mw_100 mw_101 mw_27 mw_102 (by decide +kernel) ⟨Nat.le_of_ble_eq_true rfl, Nat.le_of_ble_eq_true rfl⟩ ⟨rfl, rfl⟩ rfl hl.1 (Nat.le_of_ble_eq_true rfl) rfl dX8_may_5 ⟨Nat.zero_le _, Nat.zero_le _⟩ (fun r f1 H locs er hP hD hS => ?_)
  have hP : va_P (dC, dI) vwCl [((g 0), .inr (8, [.ref (g 1), .ref (g 2), .ref (g 4), .ref (g 16), .ref (g 64), .ref (g 65), .ref (g 66), .ref (g 70), .ref (g 75), .ref (g 87), .ref (g 94), .int 0, .int 0, .int 0])), ((g 16), .inr (1, [.ref (g 17), .ref (g 18), .ref (g 19), .ref (g 20), .ref (g 21), .ref (g 22), .ref (g 23), .ref (g 24), .ref (g 25), .ref (g 26), .ref (g 27)])), ((g 17), .inl ((a 17), 11, .inl (fun _ => 0)))] H := hP
  have hD : va_D A [((g 0), .inr (8, [.ref (g 1), .ref (g 2), .ref (g 4), .ref (g 16), .ref (g 64), .ref (g 65), .ref (g 66), .ref (g 70), .ref (g 75), .ref (g 87), .ref (g 94), .int 0, .int 0, .int 0])), ((g 16), .inr (1, [.ref (g 17), .ref (g 18), .ref (g 19), .ref (g 20), .ref (g 21), .ref (g 22), .ref (g 23), .ref (g 24), .ref (g 25), .ref (g 26), .ref (g 27)])), ((g 17), .inl ((a 17), 11, .inl (fun _ => 0)))] := hD
  have er : r = 0 := er
  subst er
  refine lv_if_ne (tgt := 14) hx hb dX8_may_8 (by decide) (fun c2 => ?_) (fun c2 => ?_)
  · exact absurd c2 (by decide)
  · refine lv_bipush (v := (-2)) hx hb dX8_may_11 (by decide) ?_
    exact e_i hx hb hr hlocks hP hD hS (fun _ => 0) [] rfl rfl rfl dX8_may_13
set_option maxRecDepth 100000 in
set_option maxHeartbeats 4000000 in
theorem k_X9_may (l : Launch) (dC : Nat → ClassId) (dI : Nat → Nat → Nat) (g : Nat → Nat) (a : Nat → ClassId) (p0 : Int32) (p1 : Int32)  : MI l dC dI yX9_may (Cond.code yX9_may cX9_may 7 (some .int)) ({ frames := 2, cells := 0, slots := 0, locals := 46 }) [.ref (g 0), .int p0, .int p1] [((a 1), .int)] [((g 0), .inr (9, oM g 0 0 0 0 0 0 (-1))), ((g 1), .inl ((a 1), 68, .inl (fun _ => 0)))] (fun r : Int32 => r = (-2)) (fun f => []) := by
  refine m_of (Qc := fun A => QI dC dI A (fun r : Int32 => r = (-2)) (fun f => [])) (lv := [(0, .ref (g 0)), (1, .int p0), (2, .int p1)]) (by decide) (Nat.le_of_ble_eq_true rfl) rfl ?_
  intro p e s m below meth c A ls hx hb hr hml hT hown hlocks hname hP hK hD hS hA hl
  have hown : s.vm.findClass RX9 = some m.cls := hown
  refine lv_aload_n hx hb dX9_may_0 rfl (lv_at hl 0 rfl) ?_
  refine lv_iload_n hx hb dX9_may_1 rfl (lv_at hl 2 rfl) ?_
  refine c_Vi (C := RX9) (As := [.int p1]) (rest := []) (wr := []) (n := 1) ⟨hx, hb, hml, hown, hT⟩ (k_X9_isHand l dC dI g a p1) hK hP hD hS hA [0] rfl [0, 1] [] rfl rfl rfl rfl (by decide) rfl rfl mw_118 mw_119 mw_120 mw_19 mw_121 (by decide +kernel) ⟨Nat.le_of_ble_eq_true rfl, Nat.le_of_ble_eq_true rfl⟩ ⟨rfl, rfl⟩ rfl hl.1 (Nat.le_of_ble_eq_true rfl) rfl dX9_may_2 ⟨Nat.zero_le _, Nat.zero_le _⟩ (fun r f1 H locs er hP hD hS => ?_)
  have hP : va_P (dC, dI) vwCl [((g 0), .inr (9, oM g 0 0 0 0 0 0 (-1))), ((g 1), .inl ((a 1), 68, .inl (fun _ => 0)))] H := hP
  have hD : va_D A [((g 0), .inr (9, oM g 0 0 0 0 0 0 (-1))), ((g 1), .inl ((a 1), 68, .inl (fun _ => 0)))] := hD
  have er : r = 0 := er
  subst er
  refine lv_if_ne (tgt := 11) hx hb dX9_may_5 (by decide) (fun c2 => ?_) (fun c2 => ?_)
  · exact absurd c2 (by decide)
  · refine lv_bipush (v := (-2)) hx hb dX9_may_8 (by decide) ?_
    exact e_i hx hb hr hlocks hP hD hS (fun _ => 0) [] rfl rfl rfl dX9_may_10
set_option maxRecDepth 100000 in
set_option maxHeartbeats 4000000 in
theorem k_X8_ask (l : Launch) (dC : Nat → ClassId) (dI : Nat → Nat → Nat) (g : Nat → Nat) (a : Nat → ClassId) (p0 : Int32)  : MI l dC dI yX8_ask (Cond.code yX8_ask cX8_ask 3 (some .int)) ({ frames := 2, cells := 0, slots := 0, locals := 48 }) [.ref (g 0), .int p0] [((a 17), .int)] [((g 0), .inr (8, [.ref (g 1), .ref (g 2), .ref (g 4), .ref (g 16), .ref (g 64), .ref (g 65), .ref (g 66), .ref (g 70), .ref (g 75), .ref (g 87), .ref (g 94), .int 0, .int 0, .int 0])), ((g 66), .inr (5, [.ref (g 67), .ref (g 68), .ref (g 69)])), ((g 16), .inr (1, [.ref (g 17), .ref (g 18), .ref (g 19), .ref (g 20), .ref (g 21), .ref (g 22), .ref (g 23), .ref (g 24), .ref (g 25), .ref (g 26), .ref (g 27)])), ((g 17), .inl ((a 17), 11, .inl (fun _ => 0)))] (fun r : Int32 => r = (-2)) (fun f => []) := by
  refine m_of (Qc := fun A => QI dC dI A (fun r : Int32 => r = (-2)) (fun f => [])) (lv := [(0, .ref (g 0)), (1, .int p0)]) (by decide) (Nat.le_of_ble_eq_true rfl) rfl ?_
  intro p e s m below meth c A ls hx hb hr hml hT hown hlocks hname hP hK hD hS hA hl
  have hown : s.vm.findClass RX8 = some m.cls := hown
  refine lv_aload_n hx hb dX8_ask_0 rfl (lv_at hl 0 rfl) ?_
  refine lv_iload_n hx hb dX8_ask_1 rfl (lv_at hl 1 rfl) ?_
  refine c_Vi (C := RX8) (As := [.int p0]) (rest := []) (wr := []) (n := 1) ⟨hx, hb, hml, hown, hT⟩ (k_X8_seenRefusal l dC dI g a p0) hK hP hD hS hA [0] rfl [0, 1, 2, 3] [] rfl rfl rfl rfl (by decide) rfl rfl mw_228 mw_229 mw_230 mw_69 mw_231 (by decide +kernel) ⟨Nat.le_of_ble_eq_true rfl, Nat.le_of_ble_eq_true rfl⟩ ⟨rfl, rfl⟩ rfl hl.1 (Nat.le_of_ble_eq_true rfl) rfl dX8_ask_2 ⟨Nat.zero_le _, Nat.zero_le _⟩ (fun r f1 H locs er hP hD hS => ?_)
  have hP : va_P (dC, dI) vwCl [((g 0), .inr (8, [.ref (g 1), .ref (g 2), .ref (g 4), .ref (g 16), .ref (g 64), .ref (g 65), .ref (g 66), .ref (g 70), .ref (g 75), .ref (g 87), .ref (g 94), .int 0, .int 0, .int 0])), ((g 66), .inr (5, [.ref (g 67), .ref (g 68), .ref (g 69)])), ((g 16), .inr (1, [.ref (g 17), .ref (g 18), .ref (g 19), .ref (g 20), .ref (g 21), .ref (g 22), .ref (g 23), .ref (g 24), .ref (g 25), .ref (g 26), .ref (g 27)])), ((g 17), .inl ((a 17), 11, .inl (fun _ => 0)))] H := hP
  have hD : va_D A [((g 0), .inr (8, [.ref (g 1), .ref (g 2), .ref (g 4), .ref (g 16), .ref (g 64), .ref (g 65), .ref (g 66), .ref (g 70), .ref (g 75), .ref (g 87), .ref (g 94), .int 0, .int 0, .int 0])), ((g 66), .inr (5, [.ref (g 67), .ref (g 68), .ref (g 69)])), ((g 16), .inr (1, [.ref (g 17), .ref (g 18), .ref (g 19), .ref (g 20), .ref (g 21), .ref (g 22), .ref (g 23), .ref (g 24), .ref (g 25), .ref (g 26), .ref (g 27)])), ((g 17), .inl ((a 17), 11, .inl (fun _ => 0)))] := hD
  have er : r = (-2) := er
  subst er
  refine lv_istore_n (lv' := [(2, .int (-2)), (0, .ref (g 0)), (1, .int p0)]) hx hb dX8_ask_5 rfl hl (by decide) rfl (fun ls hl => ?_)
  refine lv_iload_n hx hb dX8_ask_6 rfl (lv_at hl 0 rfl) ?_
  refine lv_if_eq (tgt := 12) hx hb dX8_ask_7 (by decide) (fun c2 => ?_) (fun c2 => ?_)
  · exact absurd c2 (by decide)
  · refine lv_iload_n hx hb dX8_ask_10 rfl (lv_at hl 0 rfl) ?_
    exact e_i hx hb hr hlocks hP hD hS (fun _ => 0) [] rfl rfl rfl dX8_ask_11
set_option maxRecDepth 100000 in
set_option maxHeartbeats 4000000 in
theorem k_X9_ask (l : Launch) (dC : Nat → ClassId) (dI : Nat → Nat → Nat) (g : Nat → Nat) (a : Nat → ClassId) (p0 : Int32)  : MI l dC dI yX9_ask (Cond.code yX9_ask cX9_ask 3 (some .int)) ({ frames := 3, cells := 0, slots := 0, locals := 68 }) [.ref (g 0), .int p0] [((a 1), .int)] [((g 0), .inr (9, oM g 0 0 0 0 0 0 (-1))), ((g 1), .inl ((a 1), 68, .inl (fun _ => 0)))] (fun r : Int32 => r = (-2)) (fun f => []) := by
  refine m_of (Qc := fun A => QI dC dI A (fun r : Int32 => r = (-2)) (fun f => [])) (lv := [(0, .ref (g 0)), (1, .int p0)]) (by decide) (Nat.le_of_ble_eq_true rfl) rfl ?_
  intro p e s m below meth c A ls hx hb hr hml hT hown hlocks hname hP hK hD hS hA hl
  have hown : s.vm.findClass RX9 = some m.cls := hown
  refine lv_aload_n hx hb dX9_ask_0 rfl (lv_at hl 0 rfl) ?_
  refine lv_iload_n hx hb dX9_ask_1 rfl (lv_at hl 1 rfl) ?_
  refine c_Vi (C := RX9) (As := [.int p0]) (rest := []) (wr := []) (n := 1) ⟨hx, hb, hml, hown, hT⟩ (k_X9_layFits l dC dI g a p0) hK hP hD hS hA [0] rfl [0, 1] [] rfl rfl rfl rfl (by decide) rfl rfl mw_236 mw_237 mw_238 mw_19 mw_239 (by decide +kernel) ⟨Nat.le_of_ble_eq_true rfl, Nat.le_of_ble_eq_true rfl⟩ ⟨rfl, rfl⟩ rfl hl.1 (Nat.le_of_ble_eq_true rfl) rfl dX9_ask_2 ⟨Nat.zero_le _, Nat.zero_le _⟩ (fun r f1 H locs er hP hD hS => ?_)
  have hP : va_P (dC, dI) vwCl [((g 0), .inr (9, oM g 0 0 0 0 0 0 (-1))), ((g 1), .inl ((a 1), 68, .inl (fun _ => 0)))] H := hP
  have hD : va_D A [((g 0), .inr (9, oM g 0 0 0 0 0 0 (-1))), ((g 1), .inl ((a 1), 68, .inl (fun _ => 0)))] := hD
  have er : r = (-2) := er
  subst er
  refine lv_istore_n (lv' := [(2, .int (-2)), (0, .ref (g 0)), (1, .int p0)]) hx hb dX9_ask_5 rfl hl (by decide) rfl (fun ls hl => ?_)
  refine lv_iload_n hx hb dX9_ask_6 rfl (lv_at hl 0 rfl) ?_
  refine lv_if_ge (tgt := 14) hx hb dX9_ask_7 (by decide) (fun c2 => ?_) (fun c2 => ?_)
  · exact absurd c2 (by decide)
  · refine lv_iload_n hx hb dX9_ask_10 rfl (lv_at hl 0 rfl) ?_
    refine lv_goto (tgt := 18) hx hb dX9_ask_11 (by decide) ?_
    exact e_i hx hb hr hlocks hP hD hS (fun _ => 0) [] rfl rfl rfl dX9_ask_18
set_option maxRecDepth 100000 in
set_option maxHeartbeats 4000000 in
theorem k_X8_leaves (l : Launch) (dC : Nat → ClassId) (dI : Nat → Nat → Nat) (g : Nat → Nat) (a : Nat → ClassId) (p0 : Int32)  : MI l dC dI yX8_leaves (Cond.code yX8_leaves cX8_leaves 4 (some .int)) ({ frames := 2, cells := 0, slots := 0, locals := 48 }) [.ref (g 0), .int p0] [((a 17), .int)] [((g 0), .inr (8, [.ref (g 1), .ref (g 2), .ref (g 4), .ref (g 16), .ref (g 64), .ref (g 65), .ref (g 66), .ref (g 70), .ref (g 75), .ref (g 87), .ref (g 94), .int 0, .int 0, .int 0])), ((g 66), .inr (5, [.ref (g 67), .ref (g 68), .ref (g 69)])), ((g 16), .inr (1, [.ref (g 17), .ref (g 18), .ref (g 19), .ref (g 20), .ref (g 21), .ref (g 22), .ref (g 23), .ref (g 24), .ref (g 25), .ref (g 26), .ref (g 27)])), ((g 17), .inl ((a 17), 11, .inl (fun _ => 0)))] (fun r : Int32 => r = (-2)) (fun f => []) := by
  refine m_of (Qc := fun A => QI dC dI A (fun r : Int32 => r = (-2)) (fun f => [])) (lv := [(0, .ref (g 0)), (1, .int p0)]) (by decide) (Nat.le_of_ble_eq_true rfl) rfl ?_
  intro p e s m below meth c A ls hx hb hr hml hT hown hlocks hname hP hK hD hS hA hl
  have hown : s.vm.findClass RX8 = some m.cls := hown
  refine lv_aload_n hx hb dX8_leaves_0 rfl (lv_at hl 0 rfl) ?_
  refine lv_iload_n hx hb dX8_leaves_1 rfl (lv_at hl 1 rfl) ?_
  refine c_Vi (C := RX8) (As := [.int p0]) (rest := []) (wr := []) (n := 1) ⟨hx, hb, hml, hown, hT⟩ (k_X8_seenRefusal l dC dI g a p0) hK hP hD hS hA [0] rfl [0, 1, 2, 3] [] rfl rfl rfl rfl (by decide) rfl rfl mw_228 mw_229 mw_230 mw_69 mw_231 (by decide +kernel) ⟨Nat.le_of_ble_eq_true rfl, Nat.le_of_ble_eq_true rfl⟩ ⟨rfl, rfl⟩ rfl hl.1 (Nat.le_of_ble_eq_true rfl) rfl dX8_leaves_2 ⟨Nat.zero_le _, Nat.zero_le _⟩ (fun r f1 H locs er hP hD hS => ?_)
  have hP : va_P (dC, dI) vwCl [((g 0), .inr (8, [.ref (g 1), .ref (g 2), .ref (g 4), .ref (g 16), .ref (g 64), .ref (g 65), .ref (g 66), .ref (g 70), .ref (g 75), .ref (g 87), .ref (g 94), .int 0, .int 0, .int 0])), ((g 66), .inr (5, [.ref (g 67), .ref (g 68), .ref (g 69)])), ((g 16), .inr (1, [.ref (g 17), .ref (g 18), .ref (g 19), .ref (g 20), .ref (g 21), .ref (g 22), .ref (g 23), .ref (g 24), .ref (g 25), .ref (g 26), .ref (g 27)])), ((g 17), .inl ((a 17), 11, .inl (fun _ => 0)))] H := hP
  have hD : va_D A [((g 0), .inr (8, [.ref (g 1), .ref (g 2), .ref (g 4), .ref (g 16), .ref (g 64), .ref (g 65), .ref (g 66), .ref (g 70), .ref (g 75), .ref (g 87), .ref (g 94), .int 0, .int 0, .int 0])), ((g 66), .inr (5, [.ref (g 67), .ref (g 68), .ref (g 69)])), ((g 16), .inr (1, [.ref (g 17), .ref (g 18), .ref (g 19), .ref (g 20), .ref (g 21), .ref (g 22), .ref (g 23), .ref (g 24), .ref (g 25), .ref (g 26), .ref (g 27)])), ((g 17), .inl ((a 17), 11, .inl (fun _ => 0)))] := hD
  have er : r = (-2) := er
  subst er
  refine lv_istore_n (lv' := [(2, .int (-2)), (0, .ref (g 0)), (1, .int p0)]) hx hb dX8_leaves_5 rfl hl (by decide) rfl (fun ls hl => ?_)
  refine lv_iload_n hx hb dX8_leaves_6 rfl (lv_at hl 0 rfl) ?_
  refine lv_if_eq (tgt := 12) hx hb dX8_leaves_7 (by decide) (fun c2 => ?_) (fun c2 => ?_)
  · exact absurd c2 (by decide)
  · refine lv_iload_n hx hb dX8_leaves_10 rfl (lv_at hl 0 rfl) ?_
    exact e_i hx hb hr hlocks hP hD hS (fun _ => 0) [] rfl rfl rfl dX8_leaves_11
set_option maxRecDepth 100000 in
set_option maxHeartbeats 4000000 in
theorem k_X9_leaves (l : Launch) (dC : Nat → ClassId) (dI : Nat → Nat → Nat) (g : Nat → Nat) (a : Nat → ClassId) (p0 : Int32)  : MI l dC dI yX9_leaves (Cond.code yX9_leaves cX9_leaves 3 (some .int)) ({ frames := 3, cells := 0, slots := 0, locals := 68 }) [.ref (g 0), .int p0] [((a 1), .int)] [((g 0), .inr (9, oM g 0 0 0 0 0 0 (-1))), ((g 1), .inl ((a 1), 68, .inl (fun _ => 0)))] (fun r : Int32 => r = (-2)) (fun f => []) := by
  refine m_of (Qc := fun A => QI dC dI A (fun r : Int32 => r = (-2)) (fun f => [])) (lv := [(0, .ref (g 0)), (1, .int p0)]) (by decide) (Nat.le_of_ble_eq_true rfl) rfl ?_
  intro p e s m below meth c A ls hx hb hr hml hT hown hlocks hname hP hK hD hS hA hl
  have hown : s.vm.findClass RX9 = some m.cls := hown
  refine lv_aload_n hx hb dX9_leaves_0 rfl (lv_at hl 0 rfl) ?_
  refine lv_iload_n hx hb dX9_leaves_1 rfl (lv_at hl 1 rfl) ?_
  refine c_Vi (C := RX9) (As := [.int p0]) (rest := []) (wr := []) (n := 1) ⟨hx, hb, hml, hown, hT⟩ (k_X9_layFits l dC dI g a p0) hK hP hD hS hA [0] rfl [0, 1] [] rfl rfl rfl rfl (by decide) rfl rfl mw_236 mw_237 mw_238 mw_19 mw_239 (by decide +kernel) ⟨Nat.le_of_ble_eq_true rfl, Nat.le_of_ble_eq_true rfl⟩ ⟨rfl, rfl⟩ rfl hl.1 (Nat.le_of_ble_eq_true rfl) rfl dX9_leaves_2 ⟨Nat.zero_le _, Nat.zero_le _⟩ (fun r f1 H locs er hP hD hS => ?_)
  have hP : va_P (dC, dI) vwCl [((g 0), .inr (9, oM g 0 0 0 0 0 0 (-1))), ((g 1), .inl ((a 1), 68, .inl (fun _ => 0)))] H := hP
  have hD : va_D A [((g 0), .inr (9, oM g 0 0 0 0 0 0 (-1))), ((g 1), .inl ((a 1), 68, .inl (fun _ => 0)))] := hD
  have er : r = (-2) := er
  subst er
  refine lv_istore_n (lv' := [(2, .int (-2)), (0, .ref (g 0)), (1, .int p0)]) hx hb dX9_leaves_5 rfl hl (by decide) rfl (fun ls hl => ?_)
  refine lv_iload_n hx hb dX9_leaves_6 rfl (lv_at hl 0 rfl) ?_
  refine lv_if_ge (tgt := 12) hx hb dX9_leaves_7 (by decide) (fun c2 => ?_) (fun c2 => ?_)
  · exact absurd c2 (by decide)
  · refine lv_iload_n hx hb dX9_leaves_10 rfl (lv_at hl 0 rfl) ?_
    exact e_i hx hb hr hlocks hP hD hS (fun _ => 0) [] rfl rfl rfl dX9_leaves_11
set_option maxRecDepth 100000 in
set_option maxHeartbeats 4000000 in
theorem k_X8_brings (l : Launch) (dC : Nat → ClassId) (dI : Nat → Nat → Nat) (g : Nat → Nat) (a : Nat → ClassId) (p0 : Int32)  : MI l dC dI yX8_brings (Cond.code yX8_brings cX8_brings 2 (some .int)) ({ frames := 1, cells := 0, slots := 0, locals := 20 }) [.ref (g 0), .int p0] [((a 17), .int)] [((g 0), .inr (8, [.ref (g 1), .ref (g 2), .ref (g 4), .ref (g 16), .ref (g 64), .ref (g 65), .ref (g 66), .ref (g 70), .ref (g 75), .ref (g 87), .ref (g 94), .int 0, .int 0, .int 0])), ((g 16), .inr (1, [.ref (g 17), .ref (g 18), .ref (g 19), .ref (g 20), .ref (g 21), .ref (g 22), .ref (g 23), .ref (g 24), .ref (g 25), .ref (g 26), .ref (g 27)])), ((g 17), .inl ((a 17), 11, .inl (fun _ => 0)))] (fun r : Int32 => r = (-2)) (fun f => []) := by
  refine m_of (Qc := fun A => QI dC dI A (fun r : Int32 => r = (-2)) (fun f => [])) (lv := [(0, .ref (g 0)), (1, .int p0)]) (by decide) (Nat.le_of_ble_eq_true rfl) rfl ?_
  intro p e s m below meth c A ls hx hb hr hml hT hown hlocks hname hP hK hD hS hA hl
  have hown : s.vm.findClass RX8 = some m.cls := hown
  refine lv_aload_n hx hb dX8_brings_0 rfl (lv_at hl 0 rfl) ?_
  refine va_get (D := (dC, dI)) (ci := 8) (v := .ref (g 16)) (C := RX8) (T := TX8) (N := 14) hx hb hT inT8 hown hK hP 0 rfl rfl 3 (by decide) (hT _ mw_45) (fun _ h9 => h9) rfl dX8_brings_1 ?_
  refine c_Vi (C := RX1) (As := []) (rest := []) (wr := [((g 0), .inr (8, [.ref (g 1), .ref (g 2), .ref (g 4), .ref (g 16), .ref (g 64), .ref (g 65), .ref (g 66), .ref (g 70), .ref (g 75), .ref (g 87), .ref (g 94), .int 0, .int 0, .int 0]))]) (n := 0) ⟨hx, hb, hml, hown, hT⟩ (k_X1_stands l dC dI g a ) hK hP hD hS hA [0] rfl [1, 2] [0] rfl rfl rfl rfl (by decide) rfl rfl mw_201 mw_202 mw_203 mw_27 mw_204 (by decide +kernel) ⟨Nat.le_of_ble_eq_true rfl, Nat.le_of_ble_eq_true rfl⟩ ⟨rfl, rfl⟩ rfl hl.1 (Nat.le_of_ble_eq_true rfl) rfl dX8_brings_4 ⟨Nat.zero_le _, Nat.zero_le _⟩ (fun r f1 H locs er hP hD hS => ?_)
  have hP : va_P (dC, dI) vwCl [((g 0), .inr (8, [.ref (g 1), .ref (g 2), .ref (g 4), .ref (g 16), .ref (g 64), .ref (g 65), .ref (g 66), .ref (g 70), .ref (g 75), .ref (g 87), .ref (g 94), .int 0, .int 0, .int 0])), ((g 16), .inr (1, [.ref (g 17), .ref (g 18), .ref (g 19), .ref (g 20), .ref (g 21), .ref (g 22), .ref (g 23), .ref (g 24), .ref (g 25), .ref (g 26), .ref (g 27)])), ((g 17), .inl ((a 17), 11, .inl (fun _ => 0)))] H := hP
  have hD : va_D A [((g 0), .inr (8, [.ref (g 1), .ref (g 2), .ref (g 4), .ref (g 16), .ref (g 64), .ref (g 65), .ref (g 66), .ref (g 70), .ref (g 75), .ref (g 87), .ref (g 94), .int 0, .int 0, .int 0])), ((g 16), .inr (1, [.ref (g 17), .ref (g 18), .ref (g 19), .ref (g 20), .ref (g 21), .ref (g 22), .ref (g 23), .ref (g 24), .ref (g 25), .ref (g 26), .ref (g 27)])), ((g 17), .inl ((a 17), 11, .inl (fun _ => 0)))] := hD
  have er : r = 0 := er
  subst er
  refine lv_if_eq (tgt := 25) hx hb dX8_brings_7 (by decide) (fun c2 => ?_) (fun c2 => ?_)
  · refine lv_bipush (v := (-2)) hx hb dX8_brings_25 (by decide) ?_
    exact e_i hx hb hr hlocks hP hD hS (fun _ => 0) [] rfl rfl rfl dX8_brings_27
  · exact absurd c2 (by decide)
set_option maxRecDepth 100000 in
set_option maxHeartbeats 4000000 in
theorem k_X9_isSet (l : Launch) (dC : Nat → ClassId) (dI : Nat → Nat → Nat) (g : Nat → Nat) (a : Nat → ClassId) (p0 : Int32)  : MI l dC dI yX9_isSet (Cond.code yX9_isSet cX9_isSet 2 (some .boolean)) ({ frames := 1, cells := 0, slots := 0, locals := 20 }) [.ref (g 0), .int p0] [((a 1), .int)] [((g 0), .inr (9, oM g 0 0 0 0 0 0 (-1))), ((g 1), .inl ((a 1), 68, .inl (fun _ => 0)))] (fun r : Int32 => r = 0) (fun f => [((g 0), .inr (9, oM g 0 0 0 0 0 0 (-1))), ((g 1), .inl ((a 1), 68, .inl (fun _ => 0)))]) := by
  refine m_of (Qc := fun A => QI dC dI A (fun r : Int32 => r = 0) (fun f => [((g 0), .inr (9, oM g 0 0 0 0 0 0 (-1))), ((g 1), .inl ((a 1), 68, .inl (fun _ => 0)))])) (lv := [(0, .ref (g 0)), (1, .int p0)]) (by decide) (Nat.le_of_ble_eq_true rfl) rfl ?_
  intro p e s m below meth c A ls hx hb hr hml hT hown hlocks hname hP hK hD hS hA hl
  have hown : s.vm.findClass RX9 = some m.cls := hown
  refine lv_aload_n hx hb dX9_isSet_0 rfl (lv_at hl 0 rfl) ?_
  refine c_Vi (C := RX9) (As := []) (rest := []) (wr := []) (n := 0) ⟨hx, hb, hml, hown, hT⟩ (k_X9_isBrigade l dC dI g a ) hK hP hD hS hA [0] rfl [0, 1] [] rfl rfl rfl rfl (by decide) rfl rfl mw_126 mw_127 mw_128 mw_19 mw_129 (by decide +kernel) ⟨Nat.le_of_ble_eq_true rfl, Nat.le_of_ble_eq_true rfl⟩ ⟨rfl, rfl⟩ rfl hl.1 (Nat.le_of_ble_eq_true rfl) rfl dX9_isSet_1 ⟨Nat.zero_le _, Nat.zero_le _⟩ (fun r f1 H locs er hP hD hS => ?_)
  have hP : va_P (dC, dI) vwCl [((g 0), .inr (9, oM g 0 0 0 0 0 0 (-1))), ((g 1), .inl ((a 1), 68, .inl (fun _ => 0)))] H := hP
  have hD : va_D A [((g 0), .inr (9, oM g 0 0 0 0 0 0 (-1))), ((g 1), .inl ((a 1), 68, .inl (fun _ => 0)))] := hD
  have er : r = 0 := er
  subst er
  refine lv_if_eq (tgt := 25) hx hb dX9_isSet_4 (by decide) (fun c2 => ?_) (fun c2 => ?_)
  · refine lv_iconst (v := 0) hx hb dX9_isSet_25 (by decide) ?_
    exact e_z hx hb hr hlocks hP hD hS (fun _ => 0) [0, 1] rfl rfl rfl rfl dX9_isSet_26
  · exact absurd c2 (by decide)
set_option maxRecDepth 100000 in
set_option maxHeartbeats 4000000 in
theorem k_X9_brings (l : Launch) (dC : Nat → ClassId) (dI : Nat → Nat → Nat) (g : Nat → Nat) (a : Nat → ClassId) (p0 : Int32)  : MI l dC dI yX9_brings (Cond.code yX9_brings cX9_brings 2 (some .int)) ({ frames := 2, cells := 0, slots := 0, locals := 41 }) [.ref (g 0), .int p0] [((a 1), .int)] [((g 0), .inr (9, oM g 0 0 0 0 0 0 (-1))), ((g 1), .inl ((a 1), 68, .inl (fun _ => 0)))] (fun r : Int32 => r = (-2)) (fun f => []) := by
  refine m_of (Qc := fun A => QI dC dI A (fun r : Int32 => r = (-2)) (fun f => [])) (lv := [(0, .ref (g 0)), (1, .int p0)]) (by decide) (Nat.le_of_ble_eq_true rfl) rfl ?_
  intro p e s m below meth c A ls hx hb hr hml hT hown hlocks hname hP hK hD hS hA hl
  have hown : s.vm.findClass RX9 = some m.cls := hown
  refine lv_aload_n hx hb dX9_brings_0 rfl (lv_at hl 0 rfl) ?_
  refine lv_iload_n hx hb dX9_brings_1 rfl (lv_at hl 1 rfl) ?_
  refine c_Vi (C := RX9) (As := [.int p0]) (rest := []) (wr := []) (n := 1) ⟨hx, hb, hml, hown, hT⟩ (k_X9_isSet l dC dI g a p0) hK hP hD hS hA [0] rfl [0, 1] [] rfl rfl rfl rfl (by decide) rfl rfl mw_240 mw_241 mw_242 mw_19 mw_243 (by decide +kernel) ⟨Nat.le_of_ble_eq_true rfl, Nat.le_of_ble_eq_true rfl⟩ ⟨rfl, rfl⟩ rfl hl.1 (Nat.le_of_ble_eq_true rfl) rfl dX9_brings_2 ⟨Nat.zero_le _, Nat.zero_le _⟩ (fun r f1 H locs er hP hD hS => ?_)
  have hP : va_P (dC, dI) vwCl [((g 0), .inr (9, oM g 0 0 0 0 0 0 (-1))), ((g 1), .inl ((a 1), 68, .inl (fun _ => 0)))] H := hP
  have hD : va_D A [((g 0), .inr (9, oM g 0 0 0 0 0 0 (-1))), ((g 1), .inl ((a 1), 68, .inl (fun _ => 0)))] := hD
  have er : r = 0 := er
  subst er
  refine lv_if_ne (tgt := 11) hx hb dX9_brings_5 (by decide) (fun c2 => ?_) (fun c2 => ?_)
  · exact absurd c2 (by decide)
  · refine lv_bipush (v := (-2)) hx hb dX9_brings_8 (by decide) ?_
    exact e_i hx hb hr hlocks hP hD hS (fun _ => 0) [] rfl rfl rfl dX9_brings_10
set_option maxRecDepth 100000 in
set_option maxHeartbeats 4000000 in
theorem k_X8_share (l : Launch) (dC : Nat → ClassId) (dI : Nat → Nat → Nat) (g : Nat → Nat) (a : Nat → ClassId) (p0 : Int32) (p1 : Int32)  : MI l dC dI yX8_share (Cond.code yX8_share cX8_share 11 (some .int)) ({ frames := 1, cells := 0, slots := 0, locals := 21 }) [.ref (g 0), .int p0, .int p1] [((a 17), .int)] [((g 0), .inr (8, [.ref (g 1), .ref (g 2), .ref (g 4), .ref (g 16), .ref (g 64), .ref (g 65), .ref (g 66), .ref (g 70), .ref (g 75), .ref (g 87), .ref (g 94), .int 0, .int 0, .int 0])), ((g 16), .inr (1, [.ref (g 17), .ref (g 18), .ref (g 19), .ref (g 20), .ref (g 21), .ref (g 22), .ref (g 23), .ref (g 24), .ref (g 25), .ref (g 26), .ref (g 27)])), ((g 17), .inl ((a 17), 11, .inl (fun _ => 0)))] (fun r : Int32 => r = (-2)) (fun f => []) := by
  refine m_of (Qc := fun A => QI dC dI A (fun r : Int32 => r = (-2)) (fun f => [])) (lv := [(0, .ref (g 0)), (1, .int p0), (2, .int p1)]) (by decide) (Nat.le_of_ble_eq_true rfl) rfl ?_
  intro p e s m below meth c A ls hx hb hr hml hT hown hlocks hname hP hK hD hS hA hl
  have hown : s.vm.findClass RX8 = some m.cls := hown
  refine lv_aload_n hx hb dX8_share_0 rfl (lv_at hl 0 rfl) ?_
  refine va_get (D := (dC, dI)) (ci := 8) (v := .ref (g 16)) (C := RX8) (T := TX8) (N := 14) hx hb hT inT8 hown hK hP 0 rfl rfl 3 (by decide) (hT _ mw_45) (fun _ h9 => h9) rfl dX8_share_1 ?_
  refine lv_iload_n hx hb dX8_share_4 rfl (lv_at hl 1 rfl) ?_
  refine c_Vi (C := RX1) (As := [.int p0]) (rest := []) (wr := [((g 0), .inr (8, [.ref (g 1), .ref (g 2), .ref (g 4), .ref (g 16), .ref (g 64), .ref (g 65), .ref (g 66), .ref (g 70), .ref (g 75), .ref (g 87), .ref (g 94), .int 0, .int 0, .int 0]))]) (n := 1) ⟨hx, hb, hml, hown, hT⟩ (k_X1_hasHand l dC dI g a p0) hK hP hD hS hA [0] rfl [1, 2] [0] rfl rfl rfl rfl (by decide) rfl rfl mw_99 mw_100 mw_101 mw_27 mw_102 (by decide +kernel) ⟨Nat.le_of_ble_eq_true rfl, Nat.le_of_ble_eq_true rfl⟩ ⟨rfl, rfl⟩ rfl hl.1 (Nat.le_of_ble_eq_true rfl) rfl dX8_share_5 ⟨Nat.zero_le _, Nat.zero_le _⟩ (fun r f1 H locs er hP hD hS => ?_)
  have hP : va_P (dC, dI) vwCl [((g 0), .inr (8, [.ref (g 1), .ref (g 2), .ref (g 4), .ref (g 16), .ref (g 64), .ref (g 65), .ref (g 66), .ref (g 70), .ref (g 75), .ref (g 87), .ref (g 94), .int 0, .int 0, .int 0])), ((g 16), .inr (1, [.ref (g 17), .ref (g 18), .ref (g 19), .ref (g 20), .ref (g 21), .ref (g 22), .ref (g 23), .ref (g 24), .ref (g 25), .ref (g 26), .ref (g 27)])), ((g 17), .inl ((a 17), 11, .inl (fun _ => 0)))] H := hP
  have hD : va_D A [((g 0), .inr (8, [.ref (g 1), .ref (g 2), .ref (g 4), .ref (g 16), .ref (g 64), .ref (g 65), .ref (g 66), .ref (g 70), .ref (g 75), .ref (g 87), .ref (g 94), .int 0, .int 0, .int 0])), ((g 16), .inr (1, [.ref (g 17), .ref (g 18), .ref (g 19), .ref (g 20), .ref (g 21), .ref (g 22), .ref (g 23), .ref (g 24), .ref (g 25), .ref (g 26), .ref (g 27)])), ((g 17), .inl ((a 17), 11, .inl (fun _ => 0)))] := hD
  have er : r = 0 := er
  subst er
  refine lv_if_eq (tgt := 18) hx hb dX8_share_8 (by decide) (fun c2 => ?_) (fun c2 => ?_)
  · refine lv_bipush (v := (-2)) hx hb dX8_share_18 (by decide) ?_
    exact e_i hx hb hr hlocks hP hD hS (fun _ => 0) [] rfl rfl rfl dX8_share_20
  · exact absurd c2 (by decide)
set_option maxRecDepth 100000 in
set_option maxHeartbeats 4000000 in
theorem k_X9_share (l : Launch) (dC : Nat → ClassId) (dI : Nat → Nat → Nat) (g : Nat → Nat) (a : Nat → ClassId) (p0 : Int32) (p1 : Int32)  : MI l dC dI yX9_share (Cond.code yX9_share cX9_share 7 (some .int)) ({ frames := 2, cells := 0, slots := 0, locals := 46 }) [.ref (g 0), .int p0, .int p1] [((a 1), .int)] [((g 0), .inr (9, oM g 0 0 0 0 0 0 (-1))), ((g 1), .inl ((a 1), 68, .inl (fun _ => 0)))] (fun r : Int32 => r = (-2)) (fun f => []) := by
  refine m_of (Qc := fun A => QI dC dI A (fun r : Int32 => r = (-2)) (fun f => [])) (lv := [(0, .ref (g 0)), (1, .int p0), (2, .int p1)]) (by decide) (Nat.le_of_ble_eq_true rfl) rfl ?_
  intro p e s m below meth c A ls hx hb hr hml hT hown hlocks hname hP hK hD hS hA hl
  have hown : s.vm.findClass RX9 = some m.cls := hown
  refine lv_aload_n hx hb dX9_share_0 rfl (lv_at hl 0 rfl) ?_
  refine lv_iload_n hx hb dX9_share_1 rfl (lv_at hl 1 rfl) ?_
  refine c_Vi (C := RX9) (As := [.int p0]) (rest := []) (wr := []) (n := 1) ⟨hx, hb, hml, hown, hT⟩ (k_X9_isHand l dC dI g a p0) hK hP hD hS hA [0] rfl [0, 1] [] rfl rfl rfl rfl (by decide) rfl rfl mw_118 mw_119 mw_120 mw_19 mw_121 (by decide +kernel) ⟨Nat.le_of_ble_eq_true rfl, Nat.le_of_ble_eq_true rfl⟩ ⟨rfl, rfl⟩ rfl hl.1 (Nat.le_of_ble_eq_true rfl) rfl dX9_share_2 ⟨Nat.zero_le _, Nat.zero_le _⟩ (fun r f1 H locs er hP hD hS => ?_)
  have hP : va_P (dC, dI) vwCl [((g 0), .inr (9, oM g 0 0 0 0 0 0 (-1))), ((g 1), .inl ((a 1), 68, .inl (fun _ => 0)))] H := hP
  have hD : va_D A [((g 0), .inr (9, oM g 0 0 0 0 0 0 (-1))), ((g 1), .inl ((a 1), 68, .inl (fun _ => 0)))] := hD
  have er : r = 0 := er
  subst er
  refine lv_if_eq (tgt := 18) hx hb dX9_share_5 (by decide) (fun c2 => ?_) (fun c2 => ?_)
  · refine lv_bipush (v := (-2)) hx hb dX9_share_18 (by decide) ?_
    exact e_i hx hb hr hlocks hP hD hS (fun _ => 0) [] rfl rfl rfl dX9_share_20
  · exact absurd c2 (by decide)
set_option maxRecDepth 100000 in
set_option maxHeartbeats 4000000 in
theorem k_X8_rests (l : Launch) (dC : Nat → ClassId) (dI : Nat → Nat → Nat) (g : Nat → Nat) (a : Nat → ClassId) (p0 : Int32) (p1 : Int32)  : MI l dC dI yX8_rests (Cond.code yX8_rests cX8_rests 8 (some .int)) ({ frames := 1, cells := 0, slots := 0, locals := 21 }) [.ref (g 0), .int p0, .int p1] [((a 17), .int)] [((g 0), .inr (8, [.ref (g 1), .ref (g 2), .ref (g 4), .ref (g 16), .ref (g 64), .ref (g 65), .ref (g 66), .ref (g 70), .ref (g 75), .ref (g 87), .ref (g 94), .int 0, .int 0, .int 0])), ((g 16), .inr (1, [.ref (g 17), .ref (g 18), .ref (g 19), .ref (g 20), .ref (g 21), .ref (g 22), .ref (g 23), .ref (g 24), .ref (g 25), .ref (g 26), .ref (g 27)])), ((g 17), .inl ((a 17), 11, .inl (fun _ => 0)))] (fun r : Int32 => r = (-2)) (fun f => []) := by
  refine m_of (Qc := fun A => QI dC dI A (fun r : Int32 => r = (-2)) (fun f => [])) (lv := [(0, .ref (g 0)), (1, .int p0), (2, .int p1)]) (by decide) (Nat.le_of_ble_eq_true rfl) rfl ?_
  intro p e s m below meth c A ls hx hb hr hml hT hown hlocks hname hP hK hD hS hA hl
  have hown : s.vm.findClass RX8 = some m.cls := hown
  refine lv_aload_n hx hb dX8_rests_0 rfl (lv_at hl 0 rfl) ?_
  refine va_get (D := (dC, dI)) (ci := 8) (v := .ref (g 16)) (C := RX8) (T := TX8) (N := 14) hx hb hT inT8 hown hK hP 0 rfl rfl 3 (by decide) (hT _ mw_45) (fun _ h9 => h9) rfl dX8_rests_1 ?_
  refine lv_iload_n hx hb dX8_rests_4 rfl (lv_at hl 1 rfl) ?_
  refine c_Vi (C := RX1) (As := [.int p0]) (rest := []) (wr := [((g 0), .inr (8, [.ref (g 1), .ref (g 2), .ref (g 4), .ref (g 16), .ref (g 64), .ref (g 65), .ref (g 66), .ref (g 70), .ref (g 75), .ref (g 87), .ref (g 94), .int 0, .int 0, .int 0]))]) (n := 1) ⟨hx, hb, hml, hown, hT⟩ (k_X1_hasHand l dC dI g a p0) hK hP hD hS hA [0] rfl [1, 2] [0] rfl rfl rfl rfl (by decide) rfl rfl mw_99 mw_100 mw_101 mw_27 mw_102 (by decide +kernel) ⟨Nat.le_of_ble_eq_true rfl, Nat.le_of_ble_eq_true rfl⟩ ⟨rfl, rfl⟩ rfl hl.1 (Nat.le_of_ble_eq_true rfl) rfl dX8_rests_5 ⟨Nat.zero_le _, Nat.zero_le _⟩ (fun r f1 H locs er hP hD hS => ?_)
  have hP : va_P (dC, dI) vwCl [((g 0), .inr (8, [.ref (g 1), .ref (g 2), .ref (g 4), .ref (g 16), .ref (g 64), .ref (g 65), .ref (g 66), .ref (g 70), .ref (g 75), .ref (g 87), .ref (g 94), .int 0, .int 0, .int 0])), ((g 16), .inr (1, [.ref (g 17), .ref (g 18), .ref (g 19), .ref (g 20), .ref (g 21), .ref (g 22), .ref (g 23), .ref (g 24), .ref (g 25), .ref (g 26), .ref (g 27)])), ((g 17), .inl ((a 17), 11, .inl (fun _ => 0)))] H := hP
  have hD : va_D A [((g 0), .inr (8, [.ref (g 1), .ref (g 2), .ref (g 4), .ref (g 16), .ref (g 64), .ref (g 65), .ref (g 66), .ref (g 70), .ref (g 75), .ref (g 87), .ref (g 94), .int 0, .int 0, .int 0])), ((g 16), .inr (1, [.ref (g 17), .ref (g 18), .ref (g 19), .ref (g 20), .ref (g 21), .ref (g 22), .ref (g 23), .ref (g 24), .ref (g 25), .ref (g 26), .ref (g 27)])), ((g 17), .inl ((a 17), 11, .inl (fun _ => 0)))] := hD
  have er : r = 0 := er
  subst er
  refine lv_if_eq (tgt := 27) hx hb dX8_rests_8 (by decide) (fun c2 => ?_) (fun c2 => ?_)
  · refine lv_bipush (v := (-2)) hx hb dX8_rests_27 (by decide) ?_
    exact e_i hx hb hr hlocks hP hD hS (fun _ => 0) [] rfl rfl rfl dX8_rests_29
  · exact absurd c2 (by decide)
set_option maxRecDepth 100000 in
set_option maxHeartbeats 4000000 in
theorem k_X9_areTwo (l : Launch) (dC : Nat → ClassId) (dI : Nat → Nat → Nat) (g : Nat → Nat) (a : Nat → ClassId) (p0 : Int32) (p1 : Int32)  : MI l dC dI yX9_areTwo (Cond.code yX9_areTwo cX9_areTwo 3 (some .boolean)) ({ frames := 2, cells := 0, slots := 0, locals := 46 }) [.ref (g 0), .int p0, .int p1] [((a 1), .int)] [((g 0), .inr (9, oM g 0 0 0 0 0 0 (-1))), ((g 1), .inl ((a 1), 68, .inl (fun _ => 0)))] (fun r : Int32 => r = 0) (fun f => [((g 0), .inr (9, oM g 0 0 0 0 0 0 (-1))), ((g 1), .inl ((a 1), 68, .inl (fun _ => 0)))]) := by
  refine m_of (Qc := fun A => QI dC dI A (fun r : Int32 => r = 0) (fun f => [((g 0), .inr (9, oM g 0 0 0 0 0 0 (-1))), ((g 1), .inl ((a 1), 68, .inl (fun _ => 0)))])) (lv := [(0, .ref (g 0)), (1, .int p0), (2, .int p1)]) (by decide) (Nat.le_of_ble_eq_true rfl) rfl ?_
  intro p e s m below meth c A ls hx hb hr hml hT hown hlocks hname hP hK hD hS hA hl
  have hown : s.vm.findClass RX9 = some m.cls := hown
  refine lv_aload_n hx hb dX9_areTwo_0 rfl (lv_at hl 0 rfl) ?_
  refine lv_iload_n hx hb dX9_areTwo_1 rfl (lv_at hl 1 rfl) ?_
  refine c_Vi (C := RX9) (As := [.int p0]) (rest := []) (wr := []) (n := 1) ⟨hx, hb, hml, hown, hT⟩ (k_X9_isHand l dC dI g a p0) hK hP hD hS hA [0] rfl [0, 1] [] rfl rfl rfl rfl (by decide) rfl rfl mw_118 mw_119 mw_120 mw_19 mw_121 (by decide +kernel) ⟨Nat.le_of_ble_eq_true rfl, Nat.le_of_ble_eq_true rfl⟩ ⟨rfl, rfl⟩ rfl hl.1 (Nat.le_of_ble_eq_true rfl) rfl dX9_areTwo_2 ⟨Nat.zero_le _, Nat.zero_le _⟩ (fun r f1 H locs er hP hD hS => ?_)
  have hP : va_P (dC, dI) vwCl [((g 0), .inr (9, oM g 0 0 0 0 0 0 (-1))), ((g 1), .inl ((a 1), 68, .inl (fun _ => 0)))] H := hP
  have hD : va_D A [((g 0), .inr (9, oM g 0 0 0 0 0 0 (-1))), ((g 1), .inl ((a 1), 68, .inl (fun _ => 0)))] := hD
  have er : r = 0 := er
  subst er
  refine lv_if_eq (tgt := 25) hx hb dX9_areTwo_5 (by decide) (fun c2 => ?_) (fun c2 => ?_)
  · refine lv_iconst (v := 0) hx hb dX9_areTwo_25 (by decide) ?_
    exact e_z hx hb hr hlocks hP hD hS (fun _ => 0) [0, 1] rfl rfl rfl rfl dX9_areTwo_26
  · exact absurd c2 (by decide)
set_option maxRecDepth 100000 in
set_option maxHeartbeats 4000000 in
theorem k_X9_rests (l : Launch) (dC : Nat → ClassId) (dI : Nat → Nat → Nat) (g : Nat → Nat) (a : Nat → ClassId) (p0 : Int32) (p1 : Int32)  : MI l dC dI yX9_rests (Cond.code yX9_rests cX9_rests 8 (some .int)) ({ frames := 3, cells := 0, slots := 0, locals := 68 }) [.ref (g 0), .int p0, .int p1] [((a 1), .int)] [((g 0), .inr (9, oM g 0 0 0 0 0 0 (-1))), ((g 1), .inl ((a 1), 68, .inl (fun _ => 0)))] (fun r : Int32 => r = (-2)) (fun f => []) := by
  refine m_of (Qc := fun A => QI dC dI A (fun r : Int32 => r = (-2)) (fun f => [])) (lv := [(0, .ref (g 0)), (1, .int p0), (2, .int p1)]) (by decide) (Nat.le_of_ble_eq_true rfl) rfl ?_
  intro p e s m below meth c A ls hx hb hr hml hT hown hlocks hname hP hK hD hS hA hl
  have hown : s.vm.findClass RX9 = some m.cls := hown
  refine lv_aload_n hx hb dX9_rests_0 rfl (lv_at hl 0 rfl) ?_
  refine lv_iload_n hx hb dX9_rests_1 rfl (lv_at hl 1 rfl) ?_
  refine lv_iload_n hx hb dX9_rests_2 rfl (lv_at hl 2 rfl) ?_
  refine c_Vi (C := RX9) (As := [.int p0, .int p1]) (rest := []) (wr := []) (n := 2) ⟨hx, hb, hml, hown, hT⟩ (k_X9_areTwo l dC dI g a p0 p1) hK hP hD hS hA [0] rfl [0, 1] [] rfl rfl rfl rfl (by decide) rfl rfl mw_244 mw_245 mw_246 mw_19 mw_247 (by decide +kernel) ⟨Nat.le_of_ble_eq_true rfl, Nat.le_of_ble_eq_true rfl⟩ ⟨rfl, rfl⟩ rfl hl.1 (Nat.le_of_ble_eq_true rfl) rfl dX9_rests_3 ⟨Nat.zero_le _, Nat.zero_le _⟩ (fun r f1 H locs er hP hD hS => ?_)
  have hP : va_P (dC, dI) vwCl [((g 0), .inr (9, oM g 0 0 0 0 0 0 (-1))), ((g 1), .inl ((a 1), 68, .inl (fun _ => 0)))] H := hP
  have hD : va_D A [((g 0), .inr (9, oM g 0 0 0 0 0 0 (-1))), ((g 1), .inl ((a 1), 68, .inl (fun _ => 0)))] := hD
  have er : r = 0 := er
  subst er
  refine lv_if_ne (tgt := 12) hx hb dX9_rests_6 (by decide) (fun c2 => ?_) (fun c2 => ?_)
  · exact absurd c2 (by decide)
  · refine lv_bipush (v := (-2)) hx hb dX9_rests_9 (by decide) ?_
    exact e_i hx hb hr hlocks hP hD hS (fun _ => 0) [] rfl rfl rfl dX9_rests_11
set_option maxRecDepth 100000 in
set_option maxHeartbeats 4000000 in
theorem k_X8_gets (l : Launch) (dC : Nat → ClassId) (dI : Nat → Nat → Nat) (g : Nat → Nat) (a : Nat → ClassId) (p0 : Int32) (p1 : Int32) (p2 : Int32) (p3 : Int32)  : MI l dC dI yX8_gets (Cond.code yX8_gets cX8_gets 5 (some .int)) ({ frames := 1, cells := 0, slots := 0, locals := 21 }) [.ref (g 0), .int p0, .int p1, .int p2, .int p3] [((a 17), .int)] [((g 0), .inr (8, [.ref (g 1), .ref (g 2), .ref (g 4), .ref (g 16), .ref (g 64), .ref (g 65), .ref (g 66), .ref (g 70), .ref (g 75), .ref (g 87), .ref (g 94), .int 0, .int 0, .int 0])), ((g 16), .inr (1, [.ref (g 17), .ref (g 18), .ref (g 19), .ref (g 20), .ref (g 21), .ref (g 22), .ref (g 23), .ref (g 24), .ref (g 25), .ref (g 26), .ref (g 27)])), ((g 17), .inl ((a 17), 11, .inl (fun _ => 0)))] (fun r : Int32 => r = (-1000)) (fun f => []) := by
  refine m_of (Qc := fun A => QI dC dI A (fun r : Int32 => r = (-1000)) (fun f => [])) (lv := [(0, .ref (g 0)), (1, .int p0), (2, .int p1), (3, .int p2), (4, .int p3)]) (by decide) (Nat.le_of_ble_eq_true rfl) rfl ?_
  intro p e s m below meth c A ls hx hb hr hml hT hown hlocks hname hP hK hD hS hA hl
  have hown : s.vm.findClass RX8 = some m.cls := hown
  refine lv_aload_n hx hb dX8_gets_0 rfl (lv_at hl 0 rfl) ?_
  refine va_get (D := (dC, dI)) (ci := 8) (v := .ref (g 16)) (C := RX8) (T := TX8) (N := 14) hx hb hT inT8 hown hK hP 0 rfl rfl 3 (by decide) (hT _ mw_45) (fun _ h9 => h9) rfl dX8_gets_1 ?_
  refine lv_iload_n hx hb dX8_gets_4 rfl (lv_at hl 1 rfl) ?_
  refine c_Vi (C := RX1) (As := [.int p0]) (rest := []) (wr := [((g 0), .inr (8, [.ref (g 1), .ref (g 2), .ref (g 4), .ref (g 16), .ref (g 64), .ref (g 65), .ref (g 66), .ref (g 70), .ref (g 75), .ref (g 87), .ref (g 94), .int 0, .int 0, .int 0]))]) (n := 1) ⟨hx, hb, hml, hown, hT⟩ (k_X1_hasHand l dC dI g a p0) hK hP hD hS hA [0] rfl [1, 2] [0] rfl rfl rfl rfl (by decide) rfl rfl mw_99 mw_100 mw_101 mw_27 mw_102 (by decide +kernel) ⟨Nat.le_of_ble_eq_true rfl, Nat.le_of_ble_eq_true rfl⟩ ⟨rfl, rfl⟩ rfl hl.1 (Nat.le_of_ble_eq_true rfl) rfl dX8_gets_5 ⟨Nat.zero_le _, Nat.zero_le _⟩ (fun r f1 H locs er hP hD hS => ?_)
  have hP : va_P (dC, dI) vwCl [((g 0), .inr (8, [.ref (g 1), .ref (g 2), .ref (g 4), .ref (g 16), .ref (g 64), .ref (g 65), .ref (g 66), .ref (g 70), .ref (g 75), .ref (g 87), .ref (g 94), .int 0, .int 0, .int 0])), ((g 16), .inr (1, [.ref (g 17), .ref (g 18), .ref (g 19), .ref (g 20), .ref (g 21), .ref (g 22), .ref (g 23), .ref (g 24), .ref (g 25), .ref (g 26), .ref (g 27)])), ((g 17), .inl ((a 17), 11, .inl (fun _ => 0)))] H := hP
  have hD : va_D A [((g 0), .inr (8, [.ref (g 1), .ref (g 2), .ref (g 4), .ref (g 16), .ref (g 64), .ref (g 65), .ref (g 66), .ref (g 70), .ref (g 75), .ref (g 87), .ref (g 94), .int 0, .int 0, .int 0])), ((g 16), .inr (1, [.ref (g 17), .ref (g 18), .ref (g 19), .ref (g 20), .ref (g 21), .ref (g 22), .ref (g 23), .ref (g 24), .ref (g 25), .ref (g 26), .ref (g 27)])), ((g 17), .inl ((a 17), 11, .inl (fun _ => 0)))] := hD
  have er : r = 0 := er
  subst er
  refine lv_if_eq (tgt := 42) hx hb dX8_gets_8 (by decide) (fun c2 => ?_) (fun c2 => ?_)
  · refine lv_sipush (v := (-1000)) hx hb dX8_gets_42 (by decide) ?_
    exact e_i hx hb hr hlocks hP hD hS (fun _ => 0) [] rfl rfl rfl dX8_gets_45
  · exact absurd c2 (by decide)
set_option maxRecDepth 100000 in
set_option maxHeartbeats 4000000 in
theorem k_X9_gets (l : Launch) (dC : Nat → ClassId) (dI : Nat → Nat → Nat) (g : Nat → Nat) (a : Nat → ClassId) (p0 : Int32) (p1 : Int32) (p2 : Int32) (p3 : Int32)  : MI l dC dI yX9_gets (Cond.code yX9_gets cX9_gets 5 (some .int)) ({ frames := 3, cells := 0, slots := 0, locals := 68 }) [.ref (g 0), .int p0, .int p1, .int p2, .int p3] [((a 1), .int)] [((g 0), .inr (9, oM g 0 0 0 0 0 0 (-1))), ((g 1), .inl ((a 1), 68, .inl (fun _ => 0)))] (fun r : Int32 => r = (-1000)) (fun f => []) := by
  refine m_of (Qc := fun A => QI dC dI A (fun r : Int32 => r = (-1000)) (fun f => [])) (lv := [(0, .ref (g 0)), (1, .int p0), (2, .int p1), (3, .int p2), (4, .int p3)]) (by decide) (Nat.le_of_ble_eq_true rfl) rfl ?_
  intro p e s m below meth c A ls hx hb hr hml hT hown hlocks hname hP hK hD hS hA hl
  have hown : s.vm.findClass RX9 = some m.cls := hown
  refine lv_aload_n hx hb dX9_gets_0 rfl (lv_at hl 0 rfl) ?_
  refine lv_iload_n hx hb dX9_gets_1 rfl (lv_at hl 1 rfl) ?_
  refine lv_iload_n hx hb dX9_gets_2 rfl (lv_at hl 2 rfl) ?_
  refine c_Vi (C := RX9) (As := [.int p0, .int p1]) (rest := []) (wr := []) (n := 2) ⟨hx, hb, hml, hown, hT⟩ (k_X9_areTwo l dC dI g a p0 p1) hK hP hD hS hA [0] rfl [0, 1] [] rfl rfl rfl rfl (by decide) rfl rfl mw_244 mw_245 mw_246 mw_19 mw_247 (by decide +kernel) ⟨Nat.le_of_ble_eq_true rfl, Nat.le_of_ble_eq_true rfl⟩ ⟨rfl, rfl⟩ rfl hl.1 (Nat.le_of_ble_eq_true rfl) rfl dX9_gets_3 ⟨Nat.zero_le _, Nat.zero_le _⟩ (fun r f1 H locs er hP hD hS => ?_)
  have hP : va_P (dC, dI) vwCl [((g 0), .inr (9, oM g 0 0 0 0 0 0 (-1))), ((g 1), .inl ((a 1), 68, .inl (fun _ => 0)))] H := hP
  have hD : va_D A [((g 0), .inr (9, oM g 0 0 0 0 0 0 (-1))), ((g 1), .inl ((a 1), 68, .inl (fun _ => 0)))] := hD
  have er : r = 0 := er
  subst er
  refine lv_if_eq (tgt := 43) hx hb dX9_gets_6 (by decide) (fun c2 => ?_) (fun c2 => ?_)
  · refine lv_sipush (v := (-1000)) hx hb dX9_gets_43 (by decide) ?_
    exact e_i hx hb hr hlocks hP hD hS (fun _ => 0) [] rfl rfl rfl dX9_gets_46
  · exact absurd c2 (by decide)
set_option maxRecDepth 100000 in
set_option maxHeartbeats 4000000 in
theorem k_X8_isSlipSecond (l : Launch) (dC : Nat → ClassId) (dI : Nat → Nat → Nat) (g : Nat → Nat) (a : Nat → ClassId) (p0 : Int32)  : MI l dC dI yX8_isSlipSecond (Cond.code yX8_isSlipSecond cX8_isSlipSecond 2 (some .boolean)) ({ frames := 1, cells := 0, slots := 0, locals := 21 }) [.ref (g 0), .int p0] [((a 17), .int)] [((g 0), .inr (8, [.ref (g 1), .ref (g 2), .ref (g 4), .ref (g 16), .ref (g 64), .ref (g 65), .ref (g 66), .ref (g 70), .ref (g 75), .ref (g 87), .ref (g 94), .int 0, .int 0, .int 0])), ((g 16), .inr (1, [.ref (g 17), .ref (g 18), .ref (g 19), .ref (g 20), .ref (g 21), .ref (g 22), .ref (g 23), .ref (g 24), .ref (g 25), .ref (g 26), .ref (g 27)])), ((g 17), .inl ((a 17), 11, .inl (fun _ => 0)))] (fun r : Int32 => r = 0) (fun f => [((g 0), .inr (8, [.ref (g 1), .ref (g 2), .ref (g 4), .ref (g 16), .ref (g 64), .ref (g 65), .ref (g 66), .ref (g 70), .ref (g 75), .ref (g 87), .ref (g 94), .int 0, .int 0, .int 0])), ((g 16), .inr (1, [.ref (g 17), .ref (g 18), .ref (g 19), .ref (g 20), .ref (g 21), .ref (g 22), .ref (g 23), .ref (g 24), .ref (g 25), .ref (g 26), .ref (g 27)])), ((g 17), .inl ((a 17), 11, .inl (fun _ => 0)))]) := by
  refine m_of (Qc := fun A => QI dC dI A (fun r : Int32 => r = 0) (fun f => [((g 0), .inr (8, [.ref (g 1), .ref (g 2), .ref (g 4), .ref (g 16), .ref (g 64), .ref (g 65), .ref (g 66), .ref (g 70), .ref (g 75), .ref (g 87), .ref (g 94), .int 0, .int 0, .int 0])), ((g 16), .inr (1, [.ref (g 17), .ref (g 18), .ref (g 19), .ref (g 20), .ref (g 21), .ref (g 22), .ref (g 23), .ref (g 24), .ref (g 25), .ref (g 26), .ref (g 27)])), ((g 17), .inl ((a 17), 11, .inl (fun _ => 0)))])) (lv := [(0, .ref (g 0)), (1, .int p0)]) (by decide) (Nat.le_of_ble_eq_true rfl) rfl ?_
  intro p e s m below meth c A ls hx hb hr hml hT hown hlocks hname hP hK hD hS hA hl
  have hown : s.vm.findClass RX8 = some m.cls := hown
  refine lv_aload_n hx hb dX8_isSlipSecond_0 rfl (lv_at hl 0 rfl) ?_
  refine va_get (D := (dC, dI)) (ci := 8) (v := .ref (g 16)) (C := RX8) (T := TX8) (N := 14) hx hb hT inT8 hown hK hP 0 rfl rfl 3 (by decide) (hT _ mw_45) (fun _ h9 => h9) rfl dX8_isSlipSecond_1 ?_
  refine lv_iload_n hx hb dX8_isSlipSecond_4 rfl (lv_at hl 1 rfl) ?_
  refine c_Vi (C := RX1) (As := [.int p0]) (rest := []) (wr := [((g 0), .inr (8, [.ref (g 1), .ref (g 2), .ref (g 4), .ref (g 16), .ref (g 64), .ref (g 65), .ref (g 66), .ref (g 70), .ref (g 75), .ref (g 87), .ref (g 94), .int 0, .int 0, .int 0]))]) (n := 1) ⟨hx, hb, hml, hown, hT⟩ (k_X1_hasSecond l dC dI g a p0) hK hP hD hS hA [0] rfl [1, 2] [0] rfl rfl rfl rfl (by decide) rfl rfl mw_184 mw_185 mw_186 mw_27 mw_187 (by decide +kernel) ⟨Nat.le_of_ble_eq_true rfl, Nat.le_of_ble_eq_true rfl⟩ ⟨rfl, rfl⟩ rfl hl.1 (Nat.le_of_ble_eq_true rfl) rfl dX8_isSlipSecond_5 ⟨Nat.zero_le _, Nat.zero_le _⟩ (fun r f1 H locs er hP hD hS => ?_)
  have hP : va_P (dC, dI) vwCl [((g 0), .inr (8, [.ref (g 1), .ref (g 2), .ref (g 4), .ref (g 16), .ref (g 64), .ref (g 65), .ref (g 66), .ref (g 70), .ref (g 75), .ref (g 87), .ref (g 94), .int 0, .int 0, .int 0])), ((g 16), .inr (1, [.ref (g 17), .ref (g 18), .ref (g 19), .ref (g 20), .ref (g 21), .ref (g 22), .ref (g 23), .ref (g 24), .ref (g 25), .ref (g 26), .ref (g 27)])), ((g 17), .inl ((a 17), 11, .inl (fun _ => 0)))] H := hP
  have hD : va_D A [((g 0), .inr (8, [.ref (g 1), .ref (g 2), .ref (g 4), .ref (g 16), .ref (g 64), .ref (g 65), .ref (g 66), .ref (g 70), .ref (g 75), .ref (g 87), .ref (g 94), .int 0, .int 0, .int 0])), ((g 16), .inr (1, [.ref (g 17), .ref (g 18), .ref (g 19), .ref (g 20), .ref (g 21), .ref (g 22), .ref (g 23), .ref (g 24), .ref (g 25), .ref (g 26), .ref (g 27)])), ((g 17), .inl ((a 17), 11, .inl (fun _ => 0)))] := hD
  have er : r = 0 := er
  subst er
  refine lv_if_eq (tgt := 21) hx hb dX8_isSlipSecond_8 (by decide) (fun c2 => ?_) (fun c2 => ?_)
  · refine lv_iconst (v := 0) hx hb dX8_isSlipSecond_21 (by decide) ?_
    exact e_z hx hb hr hlocks hP hD hS (fun _ => 0) [0, 1, 2] rfl rfl rfl rfl dX8_isSlipSecond_22
  · exact absurd c2 (by decide)
set_option maxRecDepth 100000 in
set_option maxHeartbeats 4000000 in
theorem k_X8_chance (l : Launch) (dC : Nat → ClassId) (dI : Nat → Nat → Nat) (g : Nat → Nat) (a : Nat → ClassId) (p0 : Int32) (p1 : Int32) (p2 : Int32)  : ML l dC dI yX8_chance (Cond.code yX8_chance cX8_chance 7 (some .long)) ({ frames := 2, cells := 0, slots := 0, locals := 42 }) [.ref (g 0), .int p0, .int p1, .int p2] [((a 17), .int)] [((g 0), .inr (8, [.ref (g 1), .ref (g 2), .ref (g 4), .ref (g 16), .ref (g 64), .ref (g 65), .ref (g 66), .ref (g 70), .ref (g 75), .ref (g 87), .ref (g 94), .int 0, .int 0, .int 0])), ((g 16), .inr (1, [.ref (g 17), .ref (g 18), .ref (g 19), .ref (g 20), .ref (g 21), .ref (g 22), .ref (g 23), .ref (g 24), .ref (g 25), .ref (g 26), .ref (g 27)])), ((g 17), .inl ((a 17), 11, .inl (fun _ => 0)))] (fun r : Int64 => r = (-2)) (fun f => []) := by
  refine m_of (Qc := fun A => QL dC dI A (fun r : Int64 => r = (-2)) (fun f => [])) (lv := [(0, .ref (g 0)), (1, .int p0), (2, .int p1), (3, .int p2)]) (by decide) (Nat.le_of_ble_eq_true rfl) rfl ?_
  intro p e s m below meth c A ls hx hb hr hml hT hown hlocks hname hP hK hD hS hA hl
  have hown : s.vm.findClass RX8 = some m.cls := hown
  refine lv_aload_n hx hb dX8_chance_0 rfl (lv_at hl 0 rfl) ?_
  refine lv_iload_n hx hb dX8_chance_1 rfl (lv_at hl 1 rfl) ?_
  refine c_Vi (C := RX8) (As := [.int p0]) (rest := []) (wr := []) (n := 1) ⟨hx, hb, hml, hown, hT⟩ (k_X8_isSlipSecond l dC dI g a p0) hK hP hD hS hA [0] rfl [0, 1, 2] [] rfl rfl rfl rfl (by decide) rfl rfl mw_248 mw_249 mw_250 mw_69 mw_251 (by decide +kernel) ⟨Nat.le_of_ble_eq_true rfl, Nat.le_of_ble_eq_true rfl⟩ ⟨rfl, rfl⟩ rfl hl.1 (Nat.le_of_ble_eq_true rfl) rfl dX8_chance_2 ⟨Nat.zero_le _, Nat.zero_le _⟩ (fun r f1 H locs er hP hD hS => ?_)
  have hP : va_P (dC, dI) vwCl [((g 0), .inr (8, [.ref (g 1), .ref (g 2), .ref (g 4), .ref (g 16), .ref (g 64), .ref (g 65), .ref (g 66), .ref (g 70), .ref (g 75), .ref (g 87), .ref (g 94), .int 0, .int 0, .int 0])), ((g 16), .inr (1, [.ref (g 17), .ref (g 18), .ref (g 19), .ref (g 20), .ref (g 21), .ref (g 22), .ref (g 23), .ref (g 24), .ref (g 25), .ref (g 26), .ref (g 27)])), ((g 17), .inl ((a 17), 11, .inl (fun _ => 0)))] H := hP
  have hD : va_D A [((g 0), .inr (8, [.ref (g 1), .ref (g 2), .ref (g 4), .ref (g 16), .ref (g 64), .ref (g 65), .ref (g 66), .ref (g 70), .ref (g 75), .ref (g 87), .ref (g 94), .int 0, .int 0, .int 0])), ((g 16), .inr (1, [.ref (g 17), .ref (g 18), .ref (g 19), .ref (g 20), .ref (g 21), .ref (g 22), .ref (g 23), .ref (g 24), .ref (g 25), .ref (g 26), .ref (g 27)])), ((g 17), .inl ((a 17), 11, .inl (fun _ => 0)))] := hD
  have er : r = 0 := er
  subst er
  refine lv_if_eq (tgt := 25) hx hb dX8_chance_5 (by decide) (fun c2 => ?_) (fun c2 => ?_)
  · refine lv_ldc2 (v := (-2)) hx hb hown (hT _ mw_252) dX8_chance_25 ?_
    exact e_l hx hb hr hlocks hP hD hS (fun _ => 0) [] rfl rfl rfl dX8_chance_28
  · exact absurd c2 (by decide)
set_option maxRecDepth 100000 in
set_option maxHeartbeats 4000000 in
theorem k_X9_last (l : Launch) (dC : Nat → ClassId) (dI : Nat → Nat → Nat) (g : Nat → Nat) (a : Nat → ClassId)   : MI l dC dI yX9_last (Cond.code yX9_last cX9_last 1 (some .int)) ({ frames := 0, cells := 0, slots := 0, locals := 0 }) [.ref (g 0)] [((a 1), .int)] [((g 0), .inr (9, oM g 0 0 0 0 0 0 (-1))), ((g 1), .inl ((a 1), 68, .inl (fun _ => 0)))] (fun r : Int32 => r = (-1)) (fun f => [((g 0), .inr (9, oM g 0 0 0 0 0 0 (-1))), ((g 1), .inl ((a 1), 68, .inl (fun _ => 0)))]) := by
  refine m_of (Qc := fun A => QI dC dI A (fun r : Int32 => r = (-1)) (fun f => [((g 0), .inr (9, oM g 0 0 0 0 0 0 (-1))), ((g 1), .inl ((a 1), 68, .inl (fun _ => 0)))])) (lv := [(0, .ref (g 0))]) (by decide) (Nat.le_of_ble_eq_true rfl) rfl ?_
  intro p e s m below meth c A ls hx hb hr hml hT hown hlocks hname hP hK hD hS hA hl
  have hown : s.vm.findClass RX9 = some m.cls := hown
  refine lv_aload_n hx hb dX9_last_0 rfl (lv_at hl 0 rfl) ?_
  refine va_get (D := (dC, dI)) (ci := 9) (v := .ref (g 1)) (C := RX9) (T := TX9) (N := 61) hx hb hT inT9 hown hK hP 0 rfl rfl 1 (by decide) (hT _ mw_95) (fun _ h9 => h9) rfl dX9_last_1 ?_
  refine lv_iconst (v := 0) hx hb dX9_last_4 (by decide) ?_
  refine va_iald hx hb hK hP 1 0 rfl rfl (by unfold vp_in; decide) dX9_last_5 ?_
  refine t_i 0 rfl ?_
  refine lv_iconst (v := 1) hx hb dX9_last_6 (by decide) ?_
  refine lv_isub hx hb dX9_last_7 ?_
  refine t_i (-1) (by decide) ?_
  exact e_i hx hb hr hlocks hP hD hS (fun _ => 0) [0, 1] rfl rfl rfl dX9_last_8
set_option maxRecDepth 100000 in
set_option maxHeartbeats 4000000 in
theorem k_X9_isSecond (l : Launch) (dC : Nat → ClassId) (dI : Nat → Nat → Nat) (g : Nat → Nat) (a : Nat → ClassId) (p0 : Int64)  : MI l dC dI yX9_isSecond (Cond.code yX9_isSecond cX9_isSecond 3 (some .boolean)) ({ frames := 1, cells := 0, slots := 0, locals := 25 }) [.ref (g 0), .long p0] [((a 1), .int)] [((g 0), .inr (9, oM g 0 0 0 0 0 0 (-1))), ((g 1), .inl ((a 1), 68, .inl (fun _ => 0)))] (fun r : Int32 => r = 0) (fun f => [((g 0), .inr (9, oM g 0 0 0 0 0 0 (-1))), ((g 1), .inl ((a 1), 68, .inl (fun _ => 0)))]) := by
  refine m_of (Qc := fun A => QI dC dI A (fun r : Int32 => r = 0) (fun f => [((g 0), .inr (9, oM g 0 0 0 0 0 0 (-1))), ((g 1), .inl ((a 1), 68, .inl (fun _ => 0)))])) (lv := [(0, .ref (g 0)), (1, .long p0)]) (by decide) (Nat.le_of_ble_eq_true rfl) rfl ?_
  intro p e s m below meth c A ls hx hb hr hml hT hown hlocks hname hP hK hD hS hA hl
  have hown : s.vm.findClass RX9 = some m.cls := hown
  refine lv_lload_n hx hb dX9_isSecond_0 rfl (lv_at hl 1 rfl) ?_
  refine lv_lconst (v := 0) hx hb dX9_isSecond_1 (by decide) ?_
  refine lv_aload_n hx hb dX9_isSecond_2 rfl (lv_at hl 0 rfl) ?_
  refine c_Vi (C := RX9) (As := []) (rest := [.long 0, .long p0]) (wr := []) (n := 0) ⟨hx, hb, hml, hown, hT⟩ (k_X9_last l dC dI g a ) hK hP hD hS hA [0] rfl [0, 1] [] rfl rfl rfl rfl (by decide) rfl rfl mw_253 mw_254 mw_255 mw_19 mw_256 (by decide +kernel) ⟨Nat.le_of_ble_eq_true rfl, Nat.le_of_ble_eq_true rfl⟩ ⟨rfl, rfl⟩ rfl hl.1 (Nat.le_of_ble_eq_true rfl) rfl dX9_isSecond_3 ⟨Nat.zero_le _, Nat.zero_le _⟩ (fun r f1 H locs er hP hD hS => ?_)
  have hP : va_P (dC, dI) vwCl [((g 0), .inr (9, oM g 0 0 0 0 0 0 (-1))), ((g 1), .inl ((a 1), 68, .inl (fun _ => 0)))] H := hP
  have hD : va_D A [((g 0), .inr (9, oM g 0 0 0 0 0 0 (-1))), ((g 1), .inl ((a 1), 68, .inl (fun _ => 0)))] := hD
  have er : r = (-1) := er
  subst er
  refine lv_i2l (v := (-1)) hx hb dX9_isSecond_6 (by decide) ?_
  refine c_Si (As := [.long p0, .long 0, .long (-1)]) (rest := []) (wr := [((g 0), .inr (9, oM g 0 0 0 0 0 0 (-1))), ((g 1), .inl ((a 1), 68, .inl (fun _ => 0)))]) (n := 3) ⟨hx, hb, hml, hown, hT⟩ (k_X9_in l dC dI g a p0 0 (-1) p0.toInt 0 (-1) rfl (by decide) (by decide)) hK hP hD hS hA [] rfl [] [0, 1] rfl rfl rfl rfl (by decide) mw_17 mw_18 mw_19 mw_20 (by decide +kernel) ⟨Nat.le_of_ble_eq_true rfl, Nat.le_of_ble_eq_true rfl⟩ ⟨rfl, rfl⟩ rfl hl.1 (Nat.le_of_ble_eq_true rfl) rfl dX9_isSecond_7 ⟨Nat.zero_le _, Nat.zero_le _⟩ (fun r f2 H locs er hP hD hS => ?_)
  have hP : va_P (dC, dI) vwCl [((g 0), .inr (9, oM g 0 0 0 0 0 0 (-1))), ((g 1), .inl ((a 1), 68, .inl (fun _ => 0)))] H := hP
  have hD : va_D A [((g 0), .inr (9, oM g 0 0 0 0 0 0 (-1))), ((g 1), .inl ((a 1), 68, .inl (fun _ => 0)))] := hD
  by_cases hc : (0 : Int) ≤ p0.toInt ∧ p0.toInt ≤ (-1 : Int)
  · omega
  · have er : r = 0 := er.trans (if_neg hc)
    subst er
    exact e_z hx hb hr hlocks hP hD hS (fun _ => 0) [0, 1] rfl rfl rfl rfl dX9_isSecond_10
set_option maxRecDepth 100000 in
set_option maxHeartbeats 4000000 in
theorem k_X9_isSlips (l : Launch) (dC : Nat → ClassId) (dI : Nat → Nat → Nat) (g : Nat → Nat) (a : Nat → ClassId) (p0 : Int32) (p1 : Int32)  : MI l dC dI yX9_isSlips (Cond.code yX9_isSlips cX9_isSlips 3 (some .boolean)) ({ frames := 2, cells := 0, slots := 0, locals := 47 }) [.ref (g 0), .int p0, .int p1] [((a 1), .int)] [((g 0), .inr (9, oM g 0 0 0 0 0 0 (-1))), ((g 1), .inl ((a 1), 68, .inl (fun _ => 0)))] (fun r : Int32 => r = 0) (fun f => [((g 0), .inr (9, oM g 0 0 0 0 0 0 (-1))), ((g 1), .inl ((a 1), 68, .inl (fun _ => 0)))]) := by
  refine m_of (Qc := fun A => QI dC dI A (fun r : Int32 => r = 0) (fun f => [((g 0), .inr (9, oM g 0 0 0 0 0 0 (-1))), ((g 1), .inl ((a 1), 68, .inl (fun _ => 0)))])) (lv := [(0, .ref (g 0)), (1, .int p0), (2, .int p1)]) (by decide) (Nat.le_of_ble_eq_true rfl) rfl ?_
  intro p e s m below meth c A ls hx hb hr hml hT hown hlocks hname hP hK hD hS hA hl
  have hown : s.vm.findClass RX9 = some m.cls := hown
  refine lv_aload_n hx hb dX9_isSlips_0 rfl (lv_at hl 0 rfl) ?_
  refine lv_iload_n hx hb dX9_isSlips_1 rfl (lv_at hl 1 rfl) ?_
  refine lv_i2l (v := p0.toInt64) hx hb dX9_isSlips_2 rfl ?_
  refine c_Vi (C := RX9) (As := [.long p0.toInt64]) (rest := []) (wr := []) (n := 1) ⟨hx, hb, hml, hown, hT⟩ (k_X9_isSecond l dC dI g a p0.toInt64) hK hP hD hS hA [0] rfl [0, 1] [] rfl rfl rfl rfl (by decide) rfl rfl mw_257 mw_258 mw_259 mw_19 mw_260 (by decide +kernel) ⟨Nat.le_of_ble_eq_true rfl, Nat.le_of_ble_eq_true rfl⟩ ⟨rfl, rfl⟩ rfl hl.1 (Nat.le_of_ble_eq_true rfl) rfl dX9_isSlips_3 ⟨Nat.zero_le _, Nat.zero_le _⟩ (fun r f1 H locs er hP hD hS => ?_)
  have hP : va_P (dC, dI) vwCl [((g 0), .inr (9, oM g 0 0 0 0 0 0 (-1))), ((g 1), .inl ((a 1), 68, .inl (fun _ => 0)))] H := hP
  have hD : va_D A [((g 0), .inr (9, oM g 0 0 0 0 0 0 (-1))), ((g 1), .inl ((a 1), 68, .inl (fun _ => 0)))] := hD
  have er : r = 0 := er
  subst er
  refine lv_if_eq (tgt := 35) hx hb dX9_isSlips_6 (by decide) (fun c2 => ?_) (fun c2 => ?_)
  · refine lv_iconst (v := 0) hx hb dX9_isSlips_35 (by decide) ?_
    exact e_z hx hb hr hlocks hP hD hS (fun _ => 0) [0, 1] rfl rfl rfl rfl dX9_isSlips_36
  · exact absurd c2 (by decide)
set_option maxRecDepth 100000 in
set_option maxHeartbeats 4000000 in
theorem k_X9_chance (l : Launch) (dC : Nat → ClassId) (dI : Nat → Nat → Nat) (g : Nat → Nat) (a : Nat → ClassId) (p0 : Int32) (p1 : Int32) (p2 : Int32)  : ML l dC dI yX9_chance (Cond.code yX9_chance cX9_chance 4 (some .long)) ({ frames := 3, cells := 0, slots := 0, locals := 69 }) [.ref (g 0), .int p0, .int p1, .int p2] [((a 1), .int)] [((g 0), .inr (9, oM g 0 0 0 0 0 0 (-1))), ((g 1), .inl ((a 1), 68, .inl (fun _ => 0)))] (fun r : Int64 => r = (-2)) (fun f => []) := by
  refine m_of (Qc := fun A => QL dC dI A (fun r : Int64 => r = (-2)) (fun f => [])) (lv := [(0, .ref (g 0)), (1, .int p0), (2, .int p1), (3, .int p2)]) (by decide) (Nat.le_of_ble_eq_true rfl) rfl ?_
  intro p e s m below meth c A ls hx hb hr hml hT hown hlocks hname hP hK hD hS hA hl
  have hown : s.vm.findClass RX9 = some m.cls := hown
  refine lv_aload_n hx hb dX9_chance_0 rfl (lv_at hl 0 rfl) ?_
  refine lv_iload_n hx hb dX9_chance_1 rfl (lv_at hl 1 rfl) ?_
  refine lv_iload_n hx hb dX9_chance_2 rfl (lv_at hl 3 rfl) ?_
  refine c_Vi (C := RX9) (As := [.int p0, .int p2]) (rest := []) (wr := []) (n := 2) ⟨hx, hb, hml, hown, hT⟩ (k_X9_isSlips l dC dI g a p0 p2) hK hP hD hS hA [0] rfl [0, 1] [] rfl rfl rfl rfl (by decide) rfl rfl mw_261 mw_262 mw_263 mw_19 mw_264 (by decide +kernel) ⟨Nat.le_of_ble_eq_true rfl, Nat.le_of_ble_eq_true rfl⟩ ⟨rfl, rfl⟩ rfl hl.1 (Nat.le_of_ble_eq_true rfl) rfl dX9_chance_3 ⟨Nat.zero_le _, Nat.zero_le _⟩ (fun r f1 H locs er hP hD hS => ?_)
  have hP : va_P (dC, dI) vwCl [((g 0), .inr (9, oM g 0 0 0 0 0 0 (-1))), ((g 1), .inl ((a 1), 68, .inl (fun _ => 0)))] H := hP
  have hD : va_D A [((g 0), .inr (9, oM g 0 0 0 0 0 0 (-1))), ((g 1), .inl ((a 1), 68, .inl (fun _ => 0)))] := hD
  have er : r = 0 := er
  subst er
  refine lv_if_eq (tgt := 21) hx hb dX9_chance_6 (by decide) (fun c2 => ?_) (fun c2 => ?_)
  · refine lv_ldc2 (v := (-2)) hx hb hown (hT _ mw_265) dX9_chance_21 ?_
    exact e_l hx hb hr hlocks hP hD hS (fun _ => 0) [] rfl rfl rfl dX9_chance_24
  · exact absurd c2 (by decide)
set_option maxRecDepth 100000 in
set_option maxHeartbeats 4000000 in
theorem k_X8_mean (l : Launch) (dC : Nat → ClassId) (dI : Nat → Nat → Nat) (g : Nat → Nat) (a : Nat → ClassId) (p0 : Int32) (p1 : Int32)  : ML l dC dI yX8_mean (Cond.code yX8_mean cX8_mean 8 (some .long)) ({ frames := 2, cells := 0, slots := 0, locals := 42 }) [.ref (g 0), .int p0, .int p1] [((a 17), .int)] [((g 0), .inr (8, [.ref (g 1), .ref (g 2), .ref (g 4), .ref (g 16), .ref (g 64), .ref (g 65), .ref (g 66), .ref (g 70), .ref (g 75), .ref (g 87), .ref (g 94), .int 0, .int 0, .int 0])), ((g 16), .inr (1, [.ref (g 17), .ref (g 18), .ref (g 19), .ref (g 20), .ref (g 21), .ref (g 22), .ref (g 23), .ref (g 24), .ref (g 25), .ref (g 26), .ref (g 27)])), ((g 17), .inl ((a 17), 11, .inl (fun _ => 0)))] (fun r : Int64 => r = (-2)) (fun f => []) := by
  refine m_of (Qc := fun A => QL dC dI A (fun r : Int64 => r = (-2)) (fun f => [])) (lv := [(0, .ref (g 0)), (1, .int p0), (2, .int p1)]) (by decide) (Nat.le_of_ble_eq_true rfl) rfl ?_
  intro p e s m below meth c A ls hx hb hr hml hT hown hlocks hname hP hK hD hS hA hl
  have hown : s.vm.findClass RX8 = some m.cls := hown
  refine lv_aload_n hx hb dX8_mean_0 rfl (lv_at hl 0 rfl) ?_
  refine lv_iload_n hx hb dX8_mean_1 rfl (lv_at hl 1 rfl) ?_
  refine c_Vi (C := RX8) (As := [.int p0]) (rest := []) (wr := []) (n := 1) ⟨hx, hb, hml, hown, hT⟩ (k_X8_isSlipSecond l dC dI g a p0) hK hP hD hS hA [0] rfl [0, 1, 2] [] rfl rfl rfl rfl (by decide) rfl rfl mw_248 mw_249 mw_250 mw_69 mw_251 (by decide +kernel) ⟨Nat.le_of_ble_eq_true rfl, Nat.le_of_ble_eq_true rfl⟩ ⟨rfl, rfl⟩ rfl hl.1 (Nat.le_of_ble_eq_true rfl) rfl dX8_mean_2 ⟨Nat.zero_le _, Nat.zero_le _⟩ (fun r f1 H locs er hP hD hS => ?_)
  have hP : va_P (dC, dI) vwCl [((g 0), .inr (8, [.ref (g 1), .ref (g 2), .ref (g 4), .ref (g 16), .ref (g 64), .ref (g 65), .ref (g 66), .ref (g 70), .ref (g 75), .ref (g 87), .ref (g 94), .int 0, .int 0, .int 0])), ((g 16), .inr (1, [.ref (g 17), .ref (g 18), .ref (g 19), .ref (g 20), .ref (g 21), .ref (g 22), .ref (g 23), .ref (g 24), .ref (g 25), .ref (g 26), .ref (g 27)])), ((g 17), .inl ((a 17), 11, .inl (fun _ => 0)))] H := hP
  have hD : va_D A [((g 0), .inr (8, [.ref (g 1), .ref (g 2), .ref (g 4), .ref (g 16), .ref (g 64), .ref (g 65), .ref (g 66), .ref (g 70), .ref (g 75), .ref (g 87), .ref (g 94), .int 0, .int 0, .int 0])), ((g 16), .inr (1, [.ref (g 17), .ref (g 18), .ref (g 19), .ref (g 20), .ref (g 21), .ref (g 22), .ref (g 23), .ref (g 24), .ref (g 25), .ref (g 26), .ref (g 27)])), ((g 17), .inl ((a 17), 11, .inl (fun _ => 0)))] := hD
  have er : r = 0 := er
  subst er
  refine lv_if_eq (tgt := 15) hx hb dX8_mean_5 (by decide) (fun c2 => ?_) (fun c2 => ?_)
  · refine lv_ldc2 (v := (-2)) hx hb hown (hT _ mw_252) dX8_mean_15 ?_
    exact e_l hx hb hr hlocks hP hD hS (fun _ => 0) [] rfl rfl rfl dX8_mean_18
  · exact absurd c2 (by decide)
set_option maxRecDepth 100000 in
set_option maxHeartbeats 4000000 in
theorem k_X9_mean (l : Launch) (dC : Nat → ClassId) (dI : Nat → Nat → Nat) (g : Nat → Nat) (a : Nat → ClassId) (p0 : Int32) (p1 : Int32)  : ML l dC dI yX9_mean (Cond.code yX9_mean cX9_mean 3 (some .long)) ({ frames := 3, cells := 0, slots := 0, locals := 69 }) [.ref (g 0), .int p0, .int p1] [((a 1), .int)] [((g 0), .inr (9, oM g 0 0 0 0 0 0 (-1))), ((g 1), .inl ((a 1), 68, .inl (fun _ => 0)))] (fun r : Int64 => r = (-2)) (fun f => []) := by
  refine m_of (Qc := fun A => QL dC dI A (fun r : Int64 => r = (-2)) (fun f => [])) (lv := [(0, .ref (g 0)), (1, .int p0), (2, .int p1)]) (by decide) (Nat.le_of_ble_eq_true rfl) rfl ?_
  intro p e s m below meth c A ls hx hb hr hml hT hown hlocks hname hP hK hD hS hA hl
  have hown : s.vm.findClass RX9 = some m.cls := hown
  refine lv_aload_n hx hb dX9_mean_0 rfl (lv_at hl 0 rfl) ?_
  refine lv_iload_n hx hb dX9_mean_1 rfl (lv_at hl 1 rfl) ?_
  refine lv_iload_n hx hb dX9_mean_2 rfl (lv_at hl 2 rfl) ?_
  refine c_Vi (C := RX9) (As := [.int p0, .int p1]) (rest := []) (wr := []) (n := 2) ⟨hx, hb, hml, hown, hT⟩ (k_X9_isSlips l dC dI g a p0 p1) hK hP hD hS hA [0] rfl [0, 1] [] rfl rfl rfl rfl (by decide) rfl rfl mw_261 mw_262 mw_263 mw_19 mw_264 (by decide +kernel) ⟨Nat.le_of_ble_eq_true rfl, Nat.le_of_ble_eq_true rfl⟩ ⟨rfl, rfl⟩ rfl hl.1 (Nat.le_of_ble_eq_true rfl) rfl dX9_mean_3 ⟨Nat.zero_le _, Nat.zero_le _⟩ (fun r f1 H locs er hP hD hS => ?_)
  have hP : va_P (dC, dI) vwCl [((g 0), .inr (9, oM g 0 0 0 0 0 0 (-1))), ((g 1), .inl ((a 1), 68, .inl (fun _ => 0)))] H := hP
  have hD : va_D A [((g 0), .inr (9, oM g 0 0 0 0 0 0 (-1))), ((g 1), .inl ((a 1), 68, .inl (fun _ => 0)))] := hD
  have er : r = 0 := er
  subst er
  refine lv_if_ne (tgt := 13) hx hb dX9_mean_6 (by decide) (fun c2 => ?_) (fun c2 => ?_)
  · exact absurd c2 (by decide)
  · refine lv_ldc2 (v := (-2)) hx hb hown (hT _ mw_265) dX9_mean_9 ?_
    exact e_l hx hb hr hlocks hP hD hS (fun _ => 0) [] rfl rfl rfl dX9_mean_12
set_option maxRecDepth 100000 in
set_option maxHeartbeats 4000000 in
theorem k_X8_rest (l : Launch) (dC : Nat → ClassId) (dI : Nat → Nat → Nat) (g : Nat → Nat) (a : Nat → ClassId) (p0 : Int32) (p1 : Int32) (p2 : Int32)  : MI l dC dI yX8_rest (Cond.code yX8_rest cX8_rest 4 (some .int)) ({ frames := 1, cells := 0, slots := 0, locals := 21 }) [.ref (g 0), .int p0, .int p1, .int p2] [((a 17), .int)] [((g 0), .inr (8, [.ref (g 1), .ref (g 2), .ref (g 4), .ref (g 16), .ref (g 64), .ref (g 65), .ref (g 66), .ref (g 70), .ref (g 75), .ref (g 87), .ref (g 94), .int 0, .int 0, .int 0])), ((g 16), .inr (1, [.ref (g 17), .ref (g 18), .ref (g 19), .ref (g 20), .ref (g 21), .ref (g 22), .ref (g 23), .ref (g 24), .ref (g 25), .ref (g 26), .ref (g 27)])), ((g 17), .inl ((a 17), 11, .inl (fun _ => 0)))] (fun r : Int32 => r = (-2)) (fun f => []) := by
  refine m_of (Qc := fun A => QI dC dI A (fun r : Int32 => r = (-2)) (fun f => [])) (lv := [(0, .ref (g 0)), (1, .int p0), (2, .int p1), (3, .int p2)]) (by decide) (Nat.le_of_ble_eq_true rfl) rfl ?_
  intro p e s m below meth c A ls hx hb hr hml hT hown hlocks hname hP hK hD hS hA hl
  have hown : s.vm.findClass RX8 = some m.cls := hown
  refine lv_aload_n hx hb dX8_rest_0 rfl (lv_at hl 0 rfl) ?_
  refine va_get (D := (dC, dI)) (ci := 8) (v := .ref (g 16)) (C := RX8) (T := TX8) (N := 14) hx hb hT inT8 hown hK hP 0 rfl rfl 3 (by decide) (hT _ mw_45) (fun _ h9 => h9) rfl dX8_rest_1 ?_
  refine lv_iload_n hx hb dX8_rest_4 rfl (lv_at hl 1 rfl) ?_
  refine c_Vi (C := RX1) (As := [.int p0]) (rest := []) (wr := [((g 0), .inr (8, [.ref (g 1), .ref (g 2), .ref (g 4), .ref (g 16), .ref (g 64), .ref (g 65), .ref (g 66), .ref (g 70), .ref (g 75), .ref (g 87), .ref (g 94), .int 0, .int 0, .int 0]))]) (n := 1) ⟨hx, hb, hml, hown, hT⟩ (k_X1_hasHand l dC dI g a p0) hK hP hD hS hA [0] rfl [1, 2] [0] rfl rfl rfl rfl (by decide) rfl rfl mw_99 mw_100 mw_101 mw_27 mw_102 (by decide +kernel) ⟨Nat.le_of_ble_eq_true rfl, Nat.le_of_ble_eq_true rfl⟩ ⟨rfl, rfl⟩ rfl hl.1 (Nat.le_of_ble_eq_true rfl) rfl dX8_rest_5 ⟨Nat.zero_le _, Nat.zero_le _⟩ (fun r f1 H locs er hP hD hS => ?_)
  have hP : va_P (dC, dI) vwCl [((g 0), .inr (8, [.ref (g 1), .ref (g 2), .ref (g 4), .ref (g 16), .ref (g 64), .ref (g 65), .ref (g 66), .ref (g 70), .ref (g 75), .ref (g 87), .ref (g 94), .int 0, .int 0, .int 0])), ((g 16), .inr (1, [.ref (g 17), .ref (g 18), .ref (g 19), .ref (g 20), .ref (g 21), .ref (g 22), .ref (g 23), .ref (g 24), .ref (g 25), .ref (g 26), .ref (g 27)])), ((g 17), .inl ((a 17), 11, .inl (fun _ => 0)))] H := hP
  have hD : va_D A [((g 0), .inr (8, [.ref (g 1), .ref (g 2), .ref (g 4), .ref (g 16), .ref (g 64), .ref (g 65), .ref (g 66), .ref (g 70), .ref (g 75), .ref (g 87), .ref (g 94), .int 0, .int 0, .int 0])), ((g 16), .inr (1, [.ref (g 17), .ref (g 18), .ref (g 19), .ref (g 20), .ref (g 21), .ref (g 22), .ref (g 23), .ref (g 24), .ref (g 25), .ref (g 26), .ref (g 27)])), ((g 17), .inl ((a 17), 11, .inl (fun _ => 0)))] := hD
  have er : r = 0 := er
  subst er
  refine lv_if_eq (tgt := 33) hx hb dX8_rest_8 (by decide) (fun c2 => ?_) (fun c2 => ?_)
  · refine lv_bipush (v := (-2)) hx hb dX8_rest_33 (by decide) ?_
    exact e_i hx hb hr hlocks hP hD hS (fun _ => 0) [] rfl rfl rfl dX8_rest_35
  · exact absurd c2 (by decide)
set_option maxRecDepth 100000 in
set_option maxHeartbeats 4000000 in
theorem k_X9_rest (l : Launch) (dC : Nat → ClassId) (dI : Nat → Nat → Nat) (g : Nat → Nat) (a : Nat → ClassId) (p0 : Int32) (p1 : Int32) (p2 : Int32)  : MI l dC dI yX9_rest (Cond.code yX9_rest cX9_rest 4 (some .int)) ({ frames := 2, cells := 0, slots := 0, locals := 46 }) [.ref (g 0), .int p0, .int p1, .int p2] [((a 1), .int)] [((g 0), .inr (9, oM g 0 0 0 0 0 0 (-1))), ((g 1), .inl ((a 1), 68, .inl (fun _ => 0)))] (fun r : Int32 => r = (-2)) (fun f => []) := by
  refine m_of (Qc := fun A => QI dC dI A (fun r : Int32 => r = (-2)) (fun f => [])) (lv := [(0, .ref (g 0)), (1, .int p0), (2, .int p1), (3, .int p2)]) (by decide) (Nat.le_of_ble_eq_true rfl) rfl ?_
  intro p e s m below meth c A ls hx hb hr hml hT hown hlocks hname hP hK hD hS hA hl
  have hown : s.vm.findClass RX9 = some m.cls := hown
  refine lv_aload_n hx hb dX9_rest_0 rfl (lv_at hl 0 rfl) ?_
  refine lv_iload_n hx hb dX9_rest_1 rfl (lv_at hl 1 rfl) ?_
  refine c_Vi (C := RX9) (As := [.int p0]) (rest := []) (wr := []) (n := 1) ⟨hx, hb, hml, hown, hT⟩ (k_X9_isHand l dC dI g a p0) hK hP hD hS hA [0] rfl [0, 1] [] rfl rfl rfl rfl (by decide) rfl rfl mw_118 mw_119 mw_120 mw_19 mw_121 (by decide +kernel) ⟨Nat.le_of_ble_eq_true rfl, Nat.le_of_ble_eq_true rfl⟩ ⟨rfl, rfl⟩ rfl hl.1 (Nat.le_of_ble_eq_true rfl) rfl dX9_rest_2 ⟨Nat.zero_le _, Nat.zero_le _⟩ (fun r f1 H locs er hP hD hS => ?_)
  have hP : va_P (dC, dI) vwCl [((g 0), .inr (9, oM g 0 0 0 0 0 0 (-1))), ((g 1), .inl ((a 1), 68, .inl (fun _ => 0)))] H := hP
  have hD : va_D A [((g 0), .inr (9, oM g 0 0 0 0 0 0 (-1))), ((g 1), .inl ((a 1), 68, .inl (fun _ => 0)))] := hD
  have er : r = 0 := er
  subst er
  refine lv_if_eq (tgt := 29) hx hb dX9_rest_5 (by decide) (fun c2 => ?_) (fun c2 => ?_)
  · refine lv_bipush (v := (-2)) hx hb dX9_rest_29 (by decide) ?_
    exact e_i hx hb hr hlocks hP hD hS (fun _ => 0) [] rfl rfl rfl dX9_rest_31
  · exact absurd c2 (by decide)
set_option maxRecDepth 100000 in
set_option maxHeartbeats 4000000 in
theorem k_X8_paces (l : Launch) (dC : Nat → ClassId) (dI : Nat → Nat → Nat) (g : Nat → Nat) (a : Nat → ClassId) (p0 : Int32) (p1 : Int32)  : MI l dC dI yX8_paces (Cond.code yX8_paces cX8_paces 4 (some .int)) ({ frames := 1, cells := 0, slots := 0, locals := 21 }) [.ref (g 0), .int p0, .int p1] [((a 17), .int)] [((g 0), .inr (8, [.ref (g 1), .ref (g 2), .ref (g 4), .ref (g 16), .ref (g 64), .ref (g 65), .ref (g 66), .ref (g 70), .ref (g 75), .ref (g 87), .ref (g 94), .int 0, .int 0, .int 0])), ((g 16), .inr (1, [.ref (g 17), .ref (g 18), .ref (g 19), .ref (g 20), .ref (g 21), .ref (g 22), .ref (g 23), .ref (g 24), .ref (g 25), .ref (g 26), .ref (g 27)])), ((g 17), .inl ((a 17), 11, .inl (fun _ => 0)))] (fun r : Int32 => r = (-2)) (fun f => []) := by
  refine m_of (Qc := fun A => QI dC dI A (fun r : Int32 => r = (-2)) (fun f => [])) (lv := [(0, .ref (g 0)), (1, .int p0), (2, .int p1)]) (by decide) (Nat.le_of_ble_eq_true rfl) rfl ?_
  intro p e s m below meth c A ls hx hb hr hml hT hown hlocks hname hP hK hD hS hA hl
  have hown : s.vm.findClass RX8 = some m.cls := hown
  refine lv_aload_n hx hb dX8_paces_0 rfl (lv_at hl 0 rfl) ?_
  refine va_get (D := (dC, dI)) (ci := 8) (v := .ref (g 16)) (C := RX8) (T := TX8) (N := 14) hx hb hT inT8 hown hK hP 0 rfl rfl 3 (by decide) (hT _ mw_45) (fun _ h9 => h9) rfl dX8_paces_1 ?_
  refine lv_iload_n hx hb dX8_paces_4 rfl (lv_at hl 1 rfl) ?_
  refine c_Vi (C := RX1) (As := [.int p0]) (rest := []) (wr := [((g 0), .inr (8, [.ref (g 1), .ref (g 2), .ref (g 4), .ref (g 16), .ref (g 64), .ref (g 65), .ref (g 66), .ref (g 70), .ref (g 75), .ref (g 87), .ref (g 94), .int 0, .int 0, .int 0]))]) (n := 1) ⟨hx, hb, hml, hown, hT⟩ (k_X1_hasHand l dC dI g a p0) hK hP hD hS hA [0] rfl [1, 2] [0] rfl rfl rfl rfl (by decide) rfl rfl mw_99 mw_100 mw_101 mw_27 mw_102 (by decide +kernel) ⟨Nat.le_of_ble_eq_true rfl, Nat.le_of_ble_eq_true rfl⟩ ⟨rfl, rfl⟩ rfl hl.1 (Nat.le_of_ble_eq_true rfl) rfl dX8_paces_5 ⟨Nat.zero_le _, Nat.zero_le _⟩ (fun r f1 H locs er hP hD hS => ?_)
  have hP : va_P (dC, dI) vwCl [((g 0), .inr (8, [.ref (g 1), .ref (g 2), .ref (g 4), .ref (g 16), .ref (g 64), .ref (g 65), .ref (g 66), .ref (g 70), .ref (g 75), .ref (g 87), .ref (g 94), .int 0, .int 0, .int 0])), ((g 16), .inr (1, [.ref (g 17), .ref (g 18), .ref (g 19), .ref (g 20), .ref (g 21), .ref (g 22), .ref (g 23), .ref (g 24), .ref (g 25), .ref (g 26), .ref (g 27)])), ((g 17), .inl ((a 17), 11, .inl (fun _ => 0)))] H := hP
  have hD : va_D A [((g 0), .inr (8, [.ref (g 1), .ref (g 2), .ref (g 4), .ref (g 16), .ref (g 64), .ref (g 65), .ref (g 66), .ref (g 70), .ref (g 75), .ref (g 87), .ref (g 94), .int 0, .int 0, .int 0])), ((g 16), .inr (1, [.ref (g 17), .ref (g 18), .ref (g 19), .ref (g 20), .ref (g 21), .ref (g 22), .ref (g 23), .ref (g 24), .ref (g 25), .ref (g 26), .ref (g 27)])), ((g 17), .inl ((a 17), 11, .inl (fun _ => 0)))] := hD
  have er : r = 0 := er
  subst er
  refine lv_if_eq (tgt := 22) hx hb dX8_paces_8 (by decide) (fun c2 => ?_) (fun c2 => ?_)
  · refine lv_bipush (v := (-2)) hx hb dX8_paces_22 (by decide) ?_
    exact e_i hx hb hr hlocks hP hD hS (fun _ => 0) [] rfl rfl rfl dX8_paces_24
  · exact absurd c2 (by decide)
