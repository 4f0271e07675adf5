set_option maxRecDepth 100000 in
set_option maxHeartbeats 4000000 in
theorem k_X9_isSlot_3 (l : Launch) (dC : Nat → ClassId) (dI : Nat → Nat → Nat) (g : Nat → Nat) (a : Nat → ClassId)   : MI l dC dI yX9_isSlot (Cond.code yX9_isSlot cX9_isSlot 1 (some .boolean)) ({ frames := 1, cells := 0, slots := 0, locals := 25 }) [.int 1] [] [] (fun r : Int32 => r = 1) (fun f => []) := by
  refine m_of (Qc := fun A => QI dC dI A (fun r : Int32 => r = 1) (fun f => [])) (lv := [(0, .int 1)]) (by decide) (Nat.le_of_ble_eq_true rfl) rfl ?_
  intro p e s m below meth c A ls hx hb hr hml hT hown hlocks hname hP hK hD hS hA hl
  have hown : s.vm.findClass RX9 = some m.cls := hown
  refine lv_iload_n hx hb dX9_isSlot_0 rfl (lv_at hl 0 rfl) ?_
  refine lv_i2l (v := 1) hx hb dX9_isSlot_1 (by decide) ?_
  refine lv_lconst (v := 0) hx hb dX9_isSlot_2 (by decide) ?_
  refine lv_ldc2 (v := 3) hx hb hown (hT _ mw_232) dX9_isSlot_3 ?_
  refine c_Si (As := [.long 1, .long 0, .long 3]) (rest := []) (wr := []) (n := 3) ⟨hx, hb, hml, hown, hT⟩ (k_X9_in l dC dI g a 1 0 3 1 0 3 (by decide) (by decide) (by decide)) hK hP hD hS hA [] rfl [] [] rfl rfl rfl rfl (by decide) mw_17 mw_18 mw_19 mw_20 (by decide +kernel) ⟨Nat.le_of_ble_eq_true rfl, Nat.le_of_ble_eq_true rfl⟩ ⟨rfl, rfl⟩ rfl hl.1 (Nat.le_of_ble_eq_true rfl) rfl dX9_isSlot_6 ⟨Nat.zero_le _, Nat.zero_le _⟩ (fun r f1 H locs er hP hD hS => ?_)
  have hP : va_P (dC, dI) vwCl [] H := hP
  have hD : va_D A [] := hD
  by_cases hc : (0 : Int) ≤ (1 : Int) ∧ (1 : Int) ≤ (3 : Int)
  · have er : r = 1 := er.trans (if_pos hc)
    subst er
    exact e_z hx hb hr hlocks hP hD hS (fun _ => 0) [] rfl rfl rfl rfl dX9_isSlot_9
  · omega
set_option maxRecDepth 100000 in
set_option maxHeartbeats 4000000 in
theorem k_X9_isSlot_4 (l : Launch) (dC : Nat → ClassId) (dI : Nat → Nat → Nat) (g : Nat → Nat) (a : Nat → ClassId)   : MI l dC dI yX9_isSlot (Cond.code yX9_isSlot cX9_isSlot 1 (some .boolean)) ({ frames := 1, cells := 0, slots := 0, locals := 25 }) [.int 2] [] [] (fun r : Int32 => r = 1) (fun f => []) := by
  refine m_of (Qc := fun A => QI dC dI A (fun r : Int32 => r = 1) (fun f => [])) (lv := [(0, .int 2)]) (by decide) (Nat.le_of_ble_eq_true rfl) rfl ?_
  intro p e s m below meth c A ls hx hb hr hml hT hown hlocks hname hP hK hD hS hA hl
  have hown : s.vm.findClass RX9 = some m.cls := hown
  refine lv_iload_n hx hb dX9_isSlot_0 rfl (lv_at hl 0 rfl) ?_
  refine lv_i2l (v := 2) hx hb dX9_isSlot_1 (by decide) ?_
  refine lv_lconst (v := 0) hx hb dX9_isSlot_2 (by decide) ?_
  refine lv_ldc2 (v := 3) hx hb hown (hT _ mw_232) dX9_isSlot_3 ?_
  refine c_Si (As := [.long 2, .long 0, .long 3]) (rest := []) (wr := []) (n := 3) ⟨hx, hb, hml, hown, hT⟩ (k_X9_in l dC dI g a 2 0 3 2 0 3 (by decide) (by decide) (by decide)) hK hP hD hS hA [] rfl [] [] rfl rfl rfl rfl (by decide) mw_17 mw_18 mw_19 mw_20 (by decide +kernel) ⟨Nat.le_of_ble_eq_true rfl, Nat.le_of_ble_eq_true rfl⟩ ⟨rfl, rfl⟩ rfl hl.1 (Nat.le_of_ble_eq_true rfl) rfl dX9_isSlot_6 ⟨Nat.zero_le _, Nat.zero_le _⟩ (fun r f1 H locs er hP hD hS => ?_)
  have hP : va_P (dC, dI) vwCl [] H := hP
  have hD : va_D A [] := hD
  by_cases hc : (0 : Int) ≤ (2 : Int) ∧ (2 : Int) ≤ (3 : Int)
  · have er : r = 1 := er.trans (if_pos hc)
    subst er
    exact e_z hx hb hr hlocks hP hD hS (fun _ => 0) [] rfl rfl rfl rfl dX9_isSlot_9
  · omega
set_option maxRecDepth 100000 in
set_option maxHeartbeats 4000000 in
theorem k_X9_isSlot_5 (l : Launch) (dC : Nat → ClassId) (dI : Nat → Nat → Nat) (g : Nat → Nat) (a : Nat → ClassId)   : MI l dC dI yX9_isSlot (Cond.code yX9_isSlot cX9_isSlot 1 (some .boolean)) ({ frames := 1, cells := 0, slots := 0, locals := 25 }) [.int 3] [] [] (fun r : Int32 => r = 1) (fun f => []) := by
  refine m_of (Qc := fun A => QI dC dI A (fun r : Int32 => r = 1) (fun f => [])) (lv := [(0, .int 3)]) (by decide) (Nat.le_of_ble_eq_true rfl) rfl ?_
  intro p e s m below meth c A ls hx hb hr hml hT hown hlocks hname hP hK hD hS hA hl
  have hown : s.vm.findClass RX9 = some m.cls := hown
  refine lv_iload_n hx hb dX9_isSlot_0 rfl (lv_at hl 0 rfl) ?_
  refine lv_i2l (v := 3) hx hb dX9_isSlot_1 (by decide) ?_
  refine lv_lconst (v := 0) hx hb dX9_isSlot_2 (by decide) ?_
  refine lv_ldc2 (v := 3) hx hb hown (hT _ mw_232) dX9_isSlot_3 ?_
  refine c_Si (As := [.long 3, .long 0, .long 3]) (rest := []) (wr := []) (n := 3) ⟨hx, hb, hml, hown, hT⟩ (k_X9_in l dC dI g a 3 0 3 3 0 3 (by decide) (by decide) (by decide)) hK hP hD hS hA [] rfl [] [] rfl rfl rfl rfl (by decide) mw_17 mw_18 mw_19 mw_20 (by decide +kernel) ⟨Nat.le_of_ble_eq_true rfl, Nat.le_of_ble_eq_true rfl⟩ ⟨rfl, rfl⟩ rfl hl.1 (Nat.le_of_ble_eq_true rfl) rfl dX9_isSlot_6 ⟨Nat.zero_le _, Nat.zero_le _⟩ (fun r f1 H locs er hP hD hS => ?_)
  have hP : va_P (dC, dI) vwCl [] H := hP
  have hD : va_D A [] := hD
  by_cases hc : (0 : Int) ≤ (3 : Int) ∧ (3 : Int) ≤ (3 : Int)
  · have er : r = 1 := er.trans (if_pos hc)
    subst er
    exact e_z hx hb hr hlocks hP hD hS (fun _ => 0) [] rfl rfl rfl rfl dX9_isSlot_9
  · omega
set_option maxRecDepth 100000 in
set_option maxHeartbeats 4000000 in
theorem k_X9_row (l : Launch) (dC : Nat → ClassId) (dI : Nat → Nat → Nat) (g : Nat → Nat) (a : Nat → ClassId) (p0 : Int32) (p1 : Int32) (p2 : Int32)  : MI l dC dI yX9_row (Cond.code yX9_row cX9_row 5 (some .int)) ({ frames := 2, cells := 0, slots := 0, locals := 45 }) [.ref (g 0), .int p0, .int p1, .int p2] [((a 57), .int), ((a 58), .int), ((a 59), .long)] [((g 0), .inr (9, oM g 0 0 0 0 0 0 (-1))), ((g 57), .inl ((a 57), 4, .inl nF)), ((g 58), .inl ((a 58), 4, .inl (fun _ => 0))), ((g 59), .inl ((a 59), 240, .inr (.inl (fun _ => 0))))] (fun r : Int32 => r = s_row p0.toInt p1.toInt p2.toInt) (fun f => []) := by
  rcases sp3 p0 with rfl | rfl | rfl | rfl | csp | csp
  · refine m_of (Qc := fun A => QI dC dI A (fun r : Int32 => r = s_row (0 : Int32).toInt p1.toInt p2.toInt) (fun f => [])) (lv := [(0, .ref (g 0)), (1, .int 0), (2, .int p1), (3, .int p2)]) (by decide) (Nat.le_of_ble_eq_true rfl) rfl ?_
    intro p e s m below meth c A ls hx hb hr hml hT hown hlocks hname hP hK hD hS hA hl
    have hown : s.vm.findClass RX9 = some m.cls := hown
    have hz0 : (0 : Int32).toInt = 0 := by decide
    refine lv_iload_n hx hb dX9_row_0 rfl (lv_at hl 1 rfl) ?_
    refine c_Si (As := [.int 0]) (rest := []) (wr := [((g 0), .inr (9, oM g 0 0 0 0 0 0 (-1))), ((g 57), .inl ((a 57), 4, .inl nF)), ((g 58), .inl ((a 58), 4, .inl (fun _ => 0))), ((g 59), .inl ((a 59), 240, .inr (.inl (fun _ => 0))))]) (n := 1) ⟨hx, hb, hml, hown, hT⟩ (k_X9_isSlot_2 l dC dI g a ) hK hP hD hS hA [] rfl [] [0, 1, 2, 3] rfl rfl rfl rfl (by decide) mw_233 mw_234 mw_19 mw_235 (by decide +kernel) ⟨Nat.le_of_ble_eq_true rfl, Nat.le_of_ble_eq_true rfl⟩ ⟨rfl, rfl⟩ rfl hl.1 (Nat.le_of_ble_eq_true rfl) rfl dX9_row_1 ⟨Nat.zero_le _, Nat.zero_le _⟩ (fun r f1 H locs er hP hD hS => ?_)
    have hP : va_P (dC, dI) vwCl [((g 0), .inr (9, oM g 0 0 0 0 0 0 (-1))), ((g 57), .inl ((a 57), 4, .inl nF)), ((g 58), .inl ((a 58), 4, .inl (fun _ => 0))), ((g 59), .inl ((a 59), 240, .inr (.inl (fun _ => 0))))] H := hP
    have hD : va_D A [((g 0), .inr (9, oM g 0 0 0 0 0 0 (-1))), ((g 57), .inl ((a 57), 4, .inl nF)), ((g 58), .inl ((a 58), 4, .inl (fun _ => 0))), ((g 59), .inl ((a 59), 240, .inr (.inl (fun _ => 0))))] := hD
    have er : r = 1 := er
    subst er
    refine lv_if_eq (tgt := 25) hx hb dX9_row_4 (by decide) (fun c2 => ?_) (fun c2 => ?_)
    · exact absurd c2 (by decide)
    · refine lv_iload_n hx hb dX9_row_7 rfl (lv_at hl 2 rfl) ?_
      refine lv_i2l (v := p1.toInt64) hx hb dX9_row_8 rfl ?_
      refine lv_lconst (v := 0) hx hb dX9_row_9 (by decide) ?_
      refine lv_ldc2 (v := 3) hx hb hown (hT _ mw_232) dX9_row_10 ?_
      refine c_Si (As := [.long p1.toInt64, .long 0, .long 3]) (rest := []) (wr := [((g 0), .inr (9, oM g 0 0 0 0 0 0 (-1))), ((g 57), .inl ((a 57), 4, .inl nF)), ((g 58), .inl ((a 58), 4, .inl (fun _ => 0))), ((g 59), .inl ((a 59), 240, .inr (.inl (fun _ => 0))))]) (n := 3) ⟨hx, hb, hml, hown, hT⟩ (k_X9_in l dC dI g a p1.toInt64 0 3 p1.toInt 0 3 (Int32.toInt_toInt64 _) (by decide) (by decide)) hK hP hD hS hA [] rfl [] [0, 1, 2, 3] rfl rfl rfl rfl (by decide) mw_17 mw_18 mw_19 mw_20 (by decide +kernel) ⟨Nat.le_of_ble_eq_true rfl, Nat.le_of_ble_eq_true rfl⟩ ⟨rfl, rfl⟩ rfl hl.1 (Nat.le_of_ble_eq_true rfl) rfl dX9_row_13 ⟨Nat.zero_le _, Nat.zero_le _⟩ (fun r f3 H locs er hP hD hS => ?_)
      have hP : va_P (dC, dI) vwCl [((g 0), .inr (9, oM g 0 0 0 0 0 0 (-1))), ((g 57), .inl ((a 57), 4, .inl nF)), ((g 58), .inl ((a 58), 4, .inl (fun _ => 0))), ((g 59), .inl ((a 59), 240, .inr (.inl (fun _ => 0))))] H := hP
      have hD : va_D A [((g 0), .inr (9, oM g 0 0 0 0 0 0 (-1))), ((g 57), .inl ((a 57), 4, .inl nF)), ((g 58), .inl ((a 58), 4, .inl (fun _ => 0))), ((g 59), .inl ((a 59), 240, .inr (.inl (fun _ => 0))))] := hD
      by_cases hc : (0 : Int) ≤ p1.toInt ∧ p1.toInt ≤ (3 : Int)
      · have er : r = 1 := er.trans (if_pos hc)
        subst er
        refine lv_if_eq (tgt := 25) hx hb dX9_row_16 (by decide) (fun c4 => ?_) (fun c4 => ?_)
        · exact absurd c4 (by decide)
        · refine lv_iload_n hx hb dX9_row_19 rfl (lv_at hl 3 rfl) ?_
          refine lv_bipush (v := 60) hx hb dX9_row_20 (by decide) ?_
          refine lv_icmp_le (tgt := 28) hx hb dX9_row_22 (by decide) (fun c5 => ?_) (fun c5 => ?_)
          · have c5 := i_le p2.toInt 60 rfl (by decide) c5
            refine lv_iload_n hx hb dX9_row_28 rfl (lv_at hl 3 rfl) ?_
            refine lv_if_ge (tgt := 35) hx hb dX9_row_29 (by decide) (fun c6 => ?_) (fun c6 => ?_)
            · have c6 := i_le 0 p2.toInt (by decide) rfl c6
              refine lv_aload_n hx hb dX9_row_35 rfl (lv_at hl 0 rfl) ?_
              refine va_get (D := (dC, dI)) (ci := 9) (v := .ref (g 57)) (C := RX9) (T := TX9) (N := 61) hx hb hT inT9 hown hK hP 0 rfl rfl 57 (by decide) (hT _ mw_276) (fun _ h9 => h9) rfl dX9_row_36 ?_
              refine lv_iload_n hx hb dX9_row_39 rfl (lv_at hl 1 rfl) ?_
              refine lv_iload_n hx hb dX9_row_40 rfl (lv_at hl 3 rfl) ?_
              refine va_iast hx hb hK hP hD hS 1 0 rfl rfl (by unfold vp_in; decide) dX9_row_41 (fun H locs hP hD hS => ?_)
              have hP : va_P (dC, dI) vwCl [((g 0), .inr (9, oM g 0 0 0 0 0 0 (-1))), ((g 57), .inl ((a 57), 4, .inl (upd nF (0 : Int32).toNatClampNeg p2))), ((g 58), .inl ((a 58), 4, .inl (fun _ => 0))), ((g 59), .inl ((a 59), 240, .inr (.inl (fun _ => 0))))] H := hP
              have hD : va_D A [((g 0), .inr (9, oM g 0 0 0 0 0 0 (-1))), ((g 57), .inl ((a 57), 4, .inl (upd nF (0 : Int32).toNatClampNeg p2))), ((g 58), .inl ((a 58), 4, .inl (fun _ => 0))), ((g 59), .inl ((a 59), 240, .inr (.inl (fun _ => 0))))] := hD
              generalize (upd nF (0 : Int32).toNatClampNeg p2) = f7 at hP hD
              refine lv_aload_n hx hb dX9_row_42 rfl (lv_at hl 0 rfl) ?_
              refine va_get (D := (dC, dI)) (ci := 9) (v := .ref (g 58)) (C := RX9) (T := TX9) (N := 61) hx hb hT inT9 hown hK hP 0 rfl rfl 58 (by decide) (hT _ mw_288) (fun _ h9 => h9) rfl dX9_row_43 ?_
              refine lv_iload_n hx hb dX9_row_46 rfl (lv_at hl 1 rfl) ?_
              refine lv_iload_n hx hb dX9_row_47 rfl (lv_at hl 2 rfl) ?_
              refine va_iast hx hb hK hP hD hS 2 1 rfl rfl (by unfold vp_in; decide) dX9_row_48 (fun H locs hP hD hS => ?_)
              have hP : va_P (dC, dI) vwCl [((g 0), .inr (9, oM g 0 0 0 0 0 0 (-1))), ((g 57), .inl ((a 57), 4, .inl f7)), ((g 58), .inl ((a 58), 4, .inl (upd (fun _ => 0) (0 : Int32).toNatClampNeg p1))), ((g 59), .inl ((a 59), 240, .inr (.inl (fun _ => 0))))] H := hP
              have hD : va_D A [((g 0), .inr (9, oM g 0 0 0 0 0 0 (-1))), ((g 57), .inl ((a 57), 4, .inl f7)), ((g 58), .inl ((a 58), 4, .inl (upd (fun _ => 0) (0 : Int32).toNatClampNeg p1))), ((g 59), .inl ((a 59), 240, .inr (.inl (fun _ => 0))))] := hD
              generalize (upd (fun _ => 0) (0 : Int32).toNatClampNeg p1) = f8 at hP hD
              refine lv_iconst (v := 0) hx hb dX9_row_49 (by decide) ?_
              refine lv_istore (lv' := [(4, .int 0), (0, .ref (g 0)), (1, .int 0), (2, .int p1), (3, .int p2)]) hx hb dX9_row_50 hl (by decide) rfl (fun ls hl => ?_)
              have loop9 : ∀ (n i9 : Nat) (x9 : Int32) (H : Heap) (locs : List Loc) (ls : Array Slot), i9 ≤ 60 → 60 + 1 ≤ i9 + n → x9 = nI i9 → va_P (dC, dI) vwCl [((g 0), .inr (9, oM g 0 0 0 0 0 0 (-1))), ((g 57), .inl ((a 57), 4, .inl f7)), ((g 58), .inl ((a 58), 4, .inl f8)), ((g 59), .inl ((a 59), 240, .inr (.inl (fun _ => 0))))] H → va_D A [((g 0), .inr (9, oM g 0 0 0 0 0 0 (-1))), ((g 57), .inl ((a 57), 4, .inl f7)), ((g 58), .inl ((a 58), 4, .inl f8)), ((g 59), .inl ((a 59), 240, .inr (.inl (fun _ => 0))))] → va_S A s.heap H locs → lv_has ls 5 [(4, .int x9), (0, .ref (g 0)), (1, .int 0), (2, .int p1), (3, .int p2)] → W p l e ({ frames := 2, cells := 0, slots := 0, locals := 45 }) s m ([.ref (g 0), .int 0, .int p1, .int p2] : List Value).toArray below meth c H locs 0 0 (MQ below (QI dC dI A (fun r : Int32 => r = s_row (0 : Int32).toInt p1.toInt p2.toInt) (fun f => [])) ([.ref (g 0), .int 0, .int p1, .int p2] : List Value).toArray s 0 0 A) (F0 m 52 ls []) := by
                intro n
                induction n with
                | zero => exact fun i x H locs ls h1 h2 => absurd h2 (by omega)
                | succ n ih9 =>
                  intro i9 x9 H locs ls hi hin ex9 hP hD hS hl
                  refine lv_iload hx hb dX9_row_52 (lv_at hl 0 rfl) ?_
                  refine lv_bipush (v := 60) hx hb dX9_row_54 (by decide) ?_
                  refine lv_icmp_ge (tgt := 78) hx hb dX9_row_56 (by decide) (fun cc_ => ?_) (fun cc_ => ?_)
                  · refine lv_iconst (v := 0) hx hb dX9_row_78 (by decide) ?_
                    exact e_i hx hb hr hlocks hP hD hS (fun _ => 0) [] rfl rfl (by unfold s_row; (repeat' split) <;> first | rfl | omega) dX9_row_79
                  · have hlt9 : i9 < 60 := by
                      rcases Nat.lt_or_ge i9 60 with q | q
                      · exact q
                      · exact absurd (by rw [ex9]; exact nI_le q (by omega)) cc_
                    refine lv_aload_n hx hb dX9_row_59 rfl (lv_at hl 1 rfl) ?_
                    refine va_get (D := (dC, dI)) (ci := 9) (v := .ref (g 59)) (C := RX9) (T := TX9) (N := 61) hx hb hT inT9 hown hK hP 0 rfl rfl 59 (by decide) (hT _ mw_289) (fun _ h9 => h9) rfl dX9_row_60 ?_
                    refine lv_bipush (v := 60) hx hb dX9_row_63 (by decide) ?_
                    refine lv_iload_n hx hb dX9_row_65 rfl (lv_at hl 2 rfl) ?_
                    refine lv_imul hx hb dX9_row_66 ?_
                    refine t_i 0 (by decide) ?_
                    refine lv_iload hx hb dX9_row_67 (lv_at hl 0 rfl) ?_
                    refine lv_iadd hx hb dX9_row_69 ?_
                    refine lv_lconst (v := 0) hx hb dX9_row_70 (by decide) ?_
                    refine va_last hx hb hK hP hD hS 3 2 rfl rfl (by rw [ex9, show (0 : Int32) = nI 0 from rfl, nI_add]; exact vp_in_nI (by omega) (by decide)) dX9_row_71 (fun H locs hP hD hS => ?_)
                    have hP : va_P (dC, dI) vwCl [((g 0), .inr (9, oM g 0 0 0 0 0 0 (-1))), ((g 57), .inl ((a 57), 4, .inl f7)), ((g 58), .inl ((a 58), 4, .inl f8)), ((g 59), .inl ((a 59), 240, .inr (.inl (vp_updL (fun _ => 0) (0 + x9).toNatClampNeg 0))))] H := hP
                    have hD : va_D A [((g 0), .inr (9, oM g 0 0 0 0 0 0 (-1))), ((g 57), .inl ((a 57), 4, .inl f7)), ((g 58), .inl ((a 58), 4, .inl f8)), ((g 59), .inl ((a 59), 240, .inr (.inl (vp_updL (fun _ => 0) (0 + x9).toNatClampNeg 0))))] := hD
                    rw [u_zl] at hP hD
                    obtain ⟨y10, ey10⟩ : ∃ y : Int32, y = x9 + 1 := ⟨_, rfl⟩
                    refine lv_iinc (v := y10) (lv' := [(4, .int y10), (0, .ref (g 0)), (1, .int 0), (2, .int p1), (3, .int p2)]) hx hb dX9_row_72 hl (k := 0) rfl (by rw [ey10]; rfl) (by decide) rfl (fun ls hl => ?_)
                    refine lv_goto (tgt := 52) hx hb dX9_row_75 (by decide) ?_
                    exact ih9 (i9 + 1) _ _ _ _ hlt9 (by omega) (by rw [ey10, ex9]; exact nI_1 i9) hP hD hS (lv_sub hl [0, 1, 2, 3, 4] rfl)
              exact loop9 (60 + 1) 0 0 _ _ _ (Nat.zero_le _) (by omega) nI_0.symm hP hD hS hl
            · have c6 := i_nle 0 p2.toInt (by decide) rfl c6
              refine lv_bipush (v := (-3)) hx hb dX9_row_32 (by decide) ?_
              exact e_i hx hb hr hlocks hP hD hS (fun _ => 0) [] rfl rfl (by unfold s_row; (repeat' split) <;> first | rfl | omega) dX9_row_34
          · have c5 := i_nle p2.toInt 60 rfl (by decide) c5
            refine lv_bipush (v := (-2)) hx hb dX9_row_25 (by decide) ?_
            exact e_i hx hb hr hlocks hP hD hS (fun _ => 0) [] rfl rfl (by unfold s_row; (repeat' split) <;> first | rfl | omega) dX9_row_27
      · have er : r = 0 := er.trans (if_neg hc)
        subst er
        refine lv_if_eq (tgt := 25) hx hb dX9_row_16 (by decide) (fun c11 => ?_) (fun c11 => ?_)
        · refine lv_bipush (v := (-2)) hx hb dX9_row_25 (by decide) ?_
          exact e_i hx hb hr hlocks hP hD hS (fun _ => 0) [] rfl rfl (by unfold s_row; (repeat' split) <;> first | rfl | omega) dX9_row_27
        · exact absurd c11 (by decide)
  · refine m_of (Qc := fun A => QI dC dI A (fun r : Int32 => r = s_row (1 : Int32).toInt p1.toInt p2.toInt) (fun f => [])) (lv := [(0, .ref (g 0)), (1, .int 1), (2, .int p1), (3, .int p2)]) (by decide) (Nat.le_of_ble_eq_true rfl) rfl ?_
    intro p e s m below meth c A ls hx hb hr hml hT hown hlocks hname hP hK hD hS hA hl
    have hown : s.vm.findClass RX9 = some m.cls := hown
    have hz0 : (1 : Int32).toInt = 1 := by decide
    refine lv_iload_n hx hb dX9_row_0 rfl (lv_at hl 1 rfl) ?_
    refine c_Si (As := [.int 1]) (rest := []) (wr := [((g 0), .inr (9, oM g 0 0 0 0 0 0 (-1))), ((g 57), .inl ((a 57), 4, .inl nF)), ((g 58), .inl ((a 58), 4, .inl (fun _ => 0))), ((g 59), .inl ((a 59), 240, .inr (.inl (fun _ => 0))))]) (n := 1) ⟨hx, hb, hml, hown, hT⟩ (k_X9_isSlot_3 l dC dI g a ) hK hP hD hS hA [] rfl [] [0, 1, 2, 3] rfl rfl rfl rfl (by decide) mw_233 mw_234 mw_19 mw_235 (by decide +kernel) ⟨Nat.le_of_ble_eq_true rfl, Nat.le_of_ble_eq_true rfl⟩ ⟨rfl, rfl⟩ rfl hl.1 (Nat.le_of_ble_eq_true rfl) rfl dX9_row_1 ⟨Nat.zero_le _, Nat.zero_le _⟩ (fun r f1 H locs er hP hD hS => ?_)
    have hP : va_P (dC, dI) vwCl [((g 0), .inr (9, oM g 0 0 0 0 0 0 (-1))), ((g 57), .inl ((a 57), 4, .inl nF)), ((g 58), .inl ((a 58), 4, .inl (fun _ => 0))), ((g 59), .inl ((a 59), 240, .inr (.inl (fun _ => 0))))] H := hP
    have hD : va_D A [((g 0), .inr (9, oM g 0 0 0 0 0 0 (-1))), ((g 57), .inl ((a 57), 4, .inl nF)), ((g 58), .inl ((a 58), 4, .inl (fun _ => 0))), ((g 59), .inl ((a 59), 240, .inr (.inl (fun _ => 0))))] := hD
    have er : r = 1 := er
    subst er
    refine lv_if_eq (tgt := 25) hx hb dX9_row_4 (by decide) (fun c2 => ?_) (fun c2 => ?_)
    · exact absurd c2 (by decide)
    · refine lv_iload_n hx hb dX9_row_7 rfl (lv_at hl 2 rfl) ?_
      refine lv_i2l (v := p1.toInt64) hx hb dX9_row_8 rfl ?_
      refine lv_lconst (v := 0) hx hb dX9_row_9 (by decide) ?_
      refine lv_ldc2 (v := 3) hx hb hown (hT _ mw_232) dX9_row_10 ?_
      refine c_Si (As := [.long p1.toInt64, .long 0, .long 3]) (rest := []) (wr := [((g 0), .inr (9, oM g 0 0 0 0 0 0 (-1))), ((g 57), .inl ((a 57), 4, .inl nF)), ((g 58), .inl ((a 58), 4, .inl (fun _ => 0))), ((g 59), .inl ((a 59), 240, .inr (.inl (fun _ => 0))))]) (n := 3) ⟨hx, hb, hml, hown, hT⟩ (k_X9_in l dC dI g a p1.toInt64 0 3 p1.toInt 0 3 (Int32.toInt_toInt64 _) (by decide) (by decide)) hK hP hD hS hA [] rfl [] [0, 1, 2, 3] rfl rfl rfl rfl (by decide) mw_17 mw_18 mw_19 mw_20 (by decide +kernel) ⟨Nat.le_of_ble_eq_true rfl, Nat.le_of_ble_eq_true rfl⟩ ⟨rfl, rfl⟩ rfl hl.1 (Nat.le_of_ble_eq_true rfl) rfl dX9_row_13 ⟨Nat.zero_le _, Nat.zero_le _⟩ (fun r f3 H locs er hP hD hS => ?_)
      have hP : va_P (dC, dI) vwCl [((g 0), .inr (9, oM g 0 0 0 0 0 0 (-1))), ((g 57), .inl ((a 57), 4, .inl nF)), ((g 58), .inl ((a 58), 4, .inl (fun _ => 0))), ((g 59), .inl ((a 59), 240, .inr (.inl (fun _ => 0))))] H := hP
      have hD : va_D A [((g 0), .inr (9, oM g 0 0 0 0 0 0 (-1))), ((g 57), .inl ((a 57), 4, .inl nF)), ((g 58), .inl ((a 58), 4, .inl (fun _ => 0))), ((g 59), .inl ((a 59), 240, .inr (.inl (fun _ => 0))))] := hD
      by_cases hc : (0 : Int) ≤ p1.toInt ∧ p1.toInt ≤ (3 : Int)
      · have er : r = 1 := er.trans (if_pos hc)
        subst er
        refine lv_if_eq (tgt := 25) hx hb dX9_row_16 (by decide) (fun c4 => ?_) (fun c4 => ?_)
        · exact absurd c4 (by decide)
        · refine lv_iload_n hx hb dX9_row_19 rfl (lv_at hl 3 rfl) ?_
          refine lv_bipush (v := 60) hx hb dX9_row_20 (by decide) ?_
          refine lv_icmp_le (tgt := 28) hx hb dX9_row_22 (by decide) (fun c5 => ?_) (fun c5 => ?_)
          · have c5 := i_le p2.toInt 60 rfl (by decide) c5
            refine lv_iload_n hx hb dX9_row_28 rfl (lv_at hl 3 rfl) ?_
            refine lv_if_ge (tgt := 35) hx hb dX9_row_29 (by decide) (fun c6 => ?_) (fun c6 => ?_)
            · have c6 := i_le 0 p2.toInt (by decide) rfl c6
              refine lv_aload_n hx hb dX9_row_35 rfl (lv_at hl 0 rfl) ?_
              refine va_get (D := (dC, dI)) (ci := 9) (v := .ref (g 57)) (C := RX9) (T := TX9) (N := 61) hx hb hT inT9 hown hK hP 0 rfl rfl 57 (by decide) (hT _ mw_276) (fun _ h9 => h9) rfl dX9_row_36 ?_
              refine lv_iload_n hx hb dX9_row_39 rfl (lv_at hl 1 rfl) ?_
              refine lv_iload_n hx hb dX9_row_40 rfl (lv_at hl 3 rfl) ?_
              refine va_iast hx hb hK hP hD hS 1 0 rfl rfl (by unfold vp_in; decide) dX9_row_41 (fun H locs hP hD hS => ?_)
              have hP : va_P (dC, dI) vwCl [((g 0), .inr (9, oM g 0 0 0 0 0 0 (-1))), ((g 57), .inl ((a 57), 4, .inl (upd nF (1 : Int32).toNatClampNeg p2))), ((g 58), .inl ((a 58), 4, .inl (fun _ => 0))), ((g 59), .inl ((a 59), 240, .inr (.inl (fun _ => 0))))] H := hP
              have hD : va_D A [((g 0), .inr (9, oM g 0 0 0 0 0 0 (-1))), ((g 57), .inl ((a 57), 4, .inl (upd nF (1 : Int32).toNatClampNeg p2))), ((g 58), .inl ((a 58), 4, .inl (fun _ => 0))), ((g 59), .inl ((a 59), 240, .inr (.inl (fun _ => 0))))] := hD
              generalize (upd nF (1 : Int32).toNatClampNeg p2) = f7 at hP hD
              refine lv_aload_n hx hb dX9_row_42 rfl (lv_at hl 0 rfl) ?_
              refine va_get (D := (dC, dI)) (ci := 9) (v := .ref (g 58)) (C := RX9) (T := TX9) (N := 61) hx hb hT inT9 hown hK hP 0 rfl rfl 58 (by decide) (hT _ mw_288) (fun _ h9 => h9) rfl dX9_row_43 ?_
              refine lv_iload_n hx hb dX9_row_46 rfl (lv_at hl 1 rfl) ?_
              refine lv_iload_n hx hb dX9_row_47 rfl (lv_at hl 2 rfl) ?_
              refine va_iast hx hb hK hP hD hS 2 1 rfl rfl (by unfold vp_in; decide) dX9_row_48 (fun H locs hP hD hS => ?_)
              have hP : va_P (dC, dI) vwCl [((g 0), .inr (9, oM g 0 0 0 0 0 0 (-1))), ((g 57), .inl ((a 57), 4, .inl f7)), ((g 58), .inl ((a 58), 4, .inl (upd (fun _ => 0) (1 : Int32).toNatClampNeg p1))), ((g 59), .inl ((a 59), 240, .inr (.inl (fun _ => 0))))] H := hP
              have hD : va_D A [((g 0), .inr (9, oM g 0 0 0 0 0 0 (-1))), ((g 57), .inl ((a 57), 4, .inl f7)), ((g 58), .inl ((a 58), 4, .inl (upd (fun _ => 0) (1 : Int32).toNatClampNeg p1))), ((g 59), .inl ((a 59), 240, .inr (.inl (fun _ => 0))))] := hD
              generalize (upd (fun _ => 0) (1 : Int32).toNatClampNeg p1) = f8 at hP hD
              refine lv_iconst (v := 0) hx hb dX9_row_49 (by decide) ?_
              refine lv_istore (lv' := [(4, .int 0), (0, .ref (g 0)), (1, .int 1), (2, .int p1), (3, .int p2)]) hx hb dX9_row_50 hl (by decide) rfl (fun ls hl => ?_)
              have loop9 : ∀ (n i9 : Nat) (x9 : Int32) (H : Heap) (locs : List Loc) (ls : Array Slot), i9 ≤ 60 → 60 + 1 ≤ i9 + n → x9 = nI i9 → va_P (dC, dI) vwCl [((g 0), .inr (9, oM g 0 0 0 0 0 0 (-1))), ((g 57), .inl ((a 57), 4, .inl f7)), ((g 58), .inl ((a 58), 4, .inl f8)), ((g 59), .inl ((a 59), 240, .inr (.inl (fun _ => 0))))] H → va_D A [((g 0), .inr (9, oM g 0 0 0 0 0 0 (-1))), ((g 57), .inl ((a 57), 4, .inl f7)), ((g 58), .inl ((a 58), 4, .inl f8)), ((g 59), .inl ((a 59), 240, .inr (.inl (fun _ => 0))))] → va_S A s.heap H locs → lv_has ls 5 [(4, .int x9), (0, .ref (g 0)), (1, .int 1), (2, .int p1), (3, .int p2)] → W p l e ({ frames := 2, cells := 0, slots := 0, locals := 45 }) s m ([.ref (g 0), .int 1, .int p1, .int p2] : List Value).toArray below meth c H locs 0 0 (MQ below (QI dC dI A (fun r : Int32 => r = s_row (1 : Int32).toInt p1.toInt p2.toInt) (fun f => [])) ([.ref (g 0), .int 1, .int p1, .int p2] : List Value).toArray s 0 0 A) (F0 m 52 ls []) := by
                intro n
                induction n with
                | zero => exact fun i x H locs ls h1 h2 => absurd h2 (by omega)
                | succ n ih9 =>
                  intro i9 x9 H locs ls hi hin ex9 hP hD hS hl
                  refine lv_iload hx hb dX9_row_52 (lv_at hl 0 rfl) ?_
                  refine lv_bipush (v := 60) hx hb dX9_row_54 (by decide) ?_
                  refine lv_icmp_ge (tgt := 78) hx hb dX9_row_56 (by decide) (fun cc_ => ?_) (fun cc_ => ?_)
                  · refine lv_iconst (v := 0) hx hb dX9_row_78 (by decide) ?_
                    exact e_i hx hb hr hlocks hP hD hS (fun _ => 0) [] rfl rfl (by unfold s_row; (repeat' split) <;> first | rfl | omega) dX9_row_79
                  · have hlt9 : i9 < 60 := by
                      rcases Nat.lt_or_ge i9 60 with q | q
                      · exact q
                      · exact absurd (by rw [ex9]; exact nI_le q (by omega)) cc_
                    refine lv_aload_n hx hb dX9_row_59 rfl (lv_at hl 1 rfl) ?_
                    refine va_get (D := (dC, dI)) (ci := 9) (v := .ref (g 59)) (C := RX9) (T := TX9) (N := 61) hx hb hT inT9 hown hK hP 0 rfl rfl 59 (by decide) (hT _ mw_289) (fun _ h9 => h9) rfl dX9_row_60 ?_
                    refine lv_bipush (v := 60) hx hb dX9_row_63 (by decide) ?_
                    refine lv_iload_n hx hb dX9_row_65 rfl (lv_at hl 2 rfl) ?_
                    refine lv_imul hx hb dX9_row_66 ?_
                    refine t_i 60 (by decide) ?_
                    refine lv_iload hx hb dX9_row_67 (lv_at hl 0 rfl) ?_
                    refine lv_iadd hx hb dX9_row_69 ?_
                    refine lv_lconst (v := 0) hx hb dX9_row_70 (by decide) ?_
                    refine va_last hx hb hK hP hD hS 3 2 rfl rfl (by rw [ex9, show (60 : Int32) = nI 60 from rfl, nI_add]; exact vp_in_nI (by omega) (by decide)) dX9_row_71 (fun H locs hP hD hS => ?_)
                    have hP : va_P (dC, dI) vwCl [((g 0), .inr (9, oM g 0 0 0 0 0 0 (-1))), ((g 57), .inl ((a 57), 4, .inl f7)), ((g 58), .inl ((a 58), 4, .inl f8)), ((g 59), .inl ((a 59), 240, .inr (.inl (vp_updL (fun _ => 0) (60 + x9).toNatClampNeg 0))))] H := hP
                    have hD : va_D A [((g 0), .inr (9, oM g 0 0 0 0 0 0 (-1))), ((g 57), .inl ((a 57), 4, .inl f7)), ((g 58), .inl ((a 58), 4, .inl f8)), ((g 59), .inl ((a 59), 240, .inr (.inl (vp_updL (fun _ => 0) (60 + x9).toNatClampNeg 0))))] := hD
                    rw [u_zl] at hP hD
                    obtain ⟨y10, ey10⟩ : ∃ y : Int32, y = x9 + 1 := ⟨_, rfl⟩
                    refine lv_iinc (v := y10) (lv' := [(4, .int y10), (0, .ref (g 0)), (1, .int 1), (2, .int p1), (3, .int p2)]) hx hb dX9_row_72 hl (k := 0) rfl (by rw [ey10]; rfl) (by decide) rfl (fun ls hl => ?_)
                    refine lv_goto (tgt := 52) hx hb dX9_row_75 (by decide) ?_
                    exact ih9 (i9 + 1) _ _ _ _ hlt9 (by omega) (by rw [ey10, ex9]; exact nI_1 i9) hP hD hS (lv_sub hl [0, 1, 2, 3, 4] rfl)
              exact loop9 (60 + 1) 0 0 _ _ _ (Nat.zero_le _) (by omega) nI_0.symm hP hD hS hl
            · have c6 := i_nle 0 p2.toInt (by decide) rfl c6
              refine lv_bipush (v := (-3)) hx hb dX9_row_32 (by decide) ?_
              exact e_i hx hb hr hlocks hP hD hS (fun _ => 0) [] rfl rfl (by unfold s_row; (repeat' split) <;> first | rfl | omega) dX9_row_34
          · have c5 := i_nle p2.toInt 60 rfl (by decide) c5
            refine lv_bipush (v := (-2)) hx hb dX9_row_25 (by decide) ?_
            exact e_i hx hb hr hlocks hP hD hS (fun _ => 0) [] rfl rfl (by unfold s_row; (repeat' split) <;> first | rfl | omega) dX9_row_27
      · have er : r = 0 := er.trans (if_neg hc)
        subst er
        refine lv_if_eq (tgt := 25) hx hb dX9_row_16 (by decide) (fun c11 => ?_) (fun c11 => ?_)
        · refine lv_bipush (v := (-2)) hx hb dX9_row_25 (by decide) ?_
          exact e_i hx hb hr hlocks hP hD hS (fun _ => 0) [] rfl rfl (by unfold s_row; (repeat' split) <;> first | rfl | omega) dX9_row_27
        · exact absurd c11 (by decide)
  · refine m_of (Qc := fun A => QI dC dI A (fun r : Int32 => r = s_row (2 : Int32).toInt p1.toInt p2.toInt) (fun f => [])) (lv := [(0, .ref (g 0)), (1, .int 2), (2, .int p1), (3, .int p2)]) (by decide) (Nat.le_of_ble_eq_true rfl) rfl ?_
    intro p e s m below meth c A ls hx hb hr hml hT hown hlocks hname hP hK hD hS hA hl
    have hown : s.vm.findClass RX9 = some m.cls := hown
    have hz0 : (2 : Int32).toInt = 2 := by decide
    refine lv_iload_n hx hb dX9_row_0 rfl (lv_at hl 1 rfl) ?_
    refine c_Si (As := [.int 2]) (rest := []) (wr := [((g 0), .inr (9, oM g 0 0 0 0 0 0 (-1))), ((g 57), .inl ((a 57), 4, .inl nF)), ((g 58), .inl ((a 58), 4, .inl (fun _ => 0))), ((g 59), .inl ((a 59), 240, .inr (.inl (fun _ => 0))))]) (n := 1) ⟨hx, hb, hml, hown, hT⟩ (k_X9_isSlot_4 l dC dI g a ) hK hP hD hS hA [] rfl [] [0, 1, 2, 3] rfl rfl rfl rfl (by decide) mw_233 mw_234 mw_19 mw_235 (by decide +kernel) ⟨Nat.le_of_ble_eq_true rfl, Nat.le_of_ble_eq_true rfl⟩ ⟨rfl, rfl⟩ rfl hl.1 (Nat.le_of_ble_eq_true rfl) rfl dX9_row_1 ⟨Nat.zero_le _, Nat.zero_le _⟩ (fun r f1 H locs er hP hD hS => ?_)
    have hP : va_P (dC, dI) vwCl [((g 0), .inr (9, oM g 0 0 0 0 0 0 (-1))), ((g 57), .inl ((a 57), 4, .inl nF)), ((g 58), .inl ((a 58), 4, .inl (fun _ => 0))), ((g 59), .inl ((a 59), 240, .inr (.inl (fun _ => 0))))] H := hP
    have hD : va_D A [((g 0), .inr (9, oM g 0 0 0 0 0 0 (-1))), ((g 57), .inl ((a 57), 4, .inl nF)), ((g 58), .inl ((a 58), 4, .inl (fun _ => 0))), ((g 59), .inl ((a 59), 240, .inr (.inl (fun _ => 0))))] := hD
    have er : r = 1 := er
    subst er
    refine lv_if_eq (tgt := 25) hx hb dX9_row_4 (by decide) (fun c2 => ?_) (fun c2 => ?_)
    · exact absurd c2 (by decide)
    · refine lv_iload_n hx hb dX9_row_7 rfl (lv_at hl 2 rfl) ?_
      refine lv_i2l (v := p1.toInt64) hx hb dX9_row_8 rfl ?_
      refine lv_lconst (v := 0) hx hb dX9_row_9 (by decide) ?_
      refine lv_ldc2 (v := 3) hx hb hown (hT _ mw_232) dX9_row_10 ?_
      refine c_Si (As := [.long p1.toInt64, .long 0, .long 3]) (rest := []) (wr := [((g 0), .inr (9, oM g 0 0 0 0 0 0 (-1))), ((g 57), .inl ((a 57), 4, .inl nF)), ((g 58), .inl ((a 58), 4, .inl (fun _ => 0))), ((g 59), .inl ((a 59), 240, .inr (.inl (fun _ => 0))))]) (n := 3) ⟨hx, hb, hml, hown, hT⟩ (k_X9_in l dC dI g a p1.toInt64 0 3 p1.toInt 0 3 (Int32.toInt_toInt64 _) (by decide) (by decide)) hK hP hD hS hA [] rfl [] [0, 1, 2, 3] rfl rfl rfl rfl (by decide) mw_17 mw_18 mw_19 mw_20 (by decide +kernel) ⟨Nat.le_of_ble_eq_true rfl, Nat.le_of_ble_eq_true rfl⟩ ⟨rfl, rfl⟩ rfl hl.1 (Nat.le_of_ble_eq_true rfl) rfl dX9_row_13 ⟨Nat.zero_le _, Nat.zero_le _⟩ (fun r f3 H locs er hP hD hS => ?_)
      have hP : va_P (dC, dI) vwCl [((g 0), .inr (9, oM g 0 0 0 0 0 0 (-1))), ((g 57), .inl ((a 57), 4, .inl nF)), ((g 58), .inl ((a 58), 4, .inl (fun _ => 0))), ((g 59), .inl ((a 59), 240, .inr (.inl (fun _ => 0))))] H := hP
      have hD : va_D A [((g 0), .inr (9, oM g 0 0 0 0 0 0 (-1))), ((g 57), .inl ((a 57), 4, .inl nF)), ((g 58), .inl ((a 58), 4, .inl (fun _ => 0))), ((g 59), .inl ((a 59), 240, .inr (.inl (fun _ => 0))))] := hD
      by_cases hc : (0 : Int) ≤ p1.toInt ∧ p1.toInt ≤ (3 : Int)
      · have er : r = 1 := er.trans (if_pos hc)
        subst er
        refine lv_if_eq (tgt := 25) hx hb dX9_row_16 (by decide) (fun c4 => ?_) (fun c4 => ?_)
        · exact absurd c4 (by decide)
        · refine lv_iload_n hx hb dX9_row_19 rfl (lv_at hl 3 rfl) ?_
          refine lv_bipush (v := 60) hx hb dX9_row_20 (by decide) ?_
          refine lv_icmp_le (tgt := 28) hx hb dX9_row_22 (by decide) (fun c5 => ?_) (fun c5 => ?_)
          · have c5 := i_le p2.toInt 60 rfl (by decide) c5
            refine lv_iload_n hx hb dX9_row_28 rfl (lv_at hl 3 rfl) ?_
            refine lv_if_ge (tgt := 35) hx hb dX9_row_29 (by decide) (fun c6 => ?_) (fun c6 => ?_)
            · have c6 := i_le 0 p2.toInt (by decide) rfl c6
              refine lv_aload_n hx hb dX9_row_35 rfl (lv_at hl 0 rfl) ?_
              refine va_get (D := (dC, dI)) (ci := 9) (v := .ref (g 57)) (C := RX9) (T := TX9) (N := 61) hx hb hT inT9 hown hK hP 0 rfl rfl 57 (by decide) (hT _ mw_276) (fun _ h9 => h9) rfl dX9_row_36 ?_
              refine lv_iload_n hx hb dX9_row_39 rfl (lv_at hl 1 rfl) ?_
              refine lv_iload_n hx hb dX9_row_40 rfl (lv_at hl 3 rfl) ?_
              refine va_iast hx hb hK hP hD hS 1 0 rfl rfl (by unfold vp_in; decide) dX9_row_41 (fun H locs hP hD hS => ?_)
              have hP : va_P (dC, dI) vwCl [((g 0), .inr (9, oM g 0 0 0 0 0 0 (-1))), ((g 57), .inl ((a 57), 4, .inl (upd nF (2 : Int32).toNatClampNeg p2))), ((g 58), .inl ((a 58), 4, .inl (fun _ => 0))), ((g 59), .inl ((a 59), 240, .inr (.inl (fun _ => 0))))] H := hP
              have hD : va_D A [((g 0), .inr (9, oM g 0 0 0 0 0 0 (-1))), ((g 57), .inl ((a 57), 4, .inl (upd nF (2 : Int32).toNatClampNeg p2))), ((g 58), .inl ((a 58), 4, .inl (fun _ => 0))), ((g 59), .inl ((a 59), 240, .inr (.inl (fun _ => 0))))] := hD
              generalize (upd nF (2 : Int32).toNatClampNeg p2) = f7 at hP hD
              refine lv_aload_n hx hb dX9_row_42 rfl (lv_at hl 0 rfl) ?_
              refine va_get (D := (dC, dI)) (ci := 9) (v := .ref (g 58)) (C := RX9) (T := TX9) (N := 61) hx hb hT inT9 hown hK hP 0 rfl rfl 58 (by decide) (hT _ mw_288) (fun _ h9 => h9) rfl dX9_row_43 ?_
              refine lv_iload_n hx hb dX9_row_46 rfl (lv_at hl 1 rfl) ?_
              refine lv_iload_n hx hb dX9_row_47 rfl (lv_at hl 2 rfl) ?_
              refine va_iast hx hb hK hP hD hS 2 1 rfl rfl (by unfold vp_in; decide) dX9_row_48 (fun H locs hP hD hS => ?_)
              have hP : va_P (dC, dI) vwCl [((g 0), .inr (9, oM g 0 0 0 0 0 0 (-1))), ((g 57), .inl ((a 57), 4, .inl f7)), ((g 58), .inl ((a 58), 4, .inl (upd (fun _ => 0) (2 : Int32).toNatClampNeg p1))), ((g 59), .inl ((a 59), 240, .inr (.inl (fun _ => 0))))] H := hP
              have hD : va_D A [((g 0), .inr (9, oM g 0 0 0 0 0 0 (-1))), ((g 57), .inl ((a 57), 4, .inl f7)), ((g 58), .inl ((a 58), 4, .inl (upd (fun _ => 0) (2 : Int32).toNatClampNeg p1))), ((g 59), .inl ((a 59), 240, .inr (.inl (fun _ => 0))))] := hD
              generalize (upd (fun _ => 0) (2 : Int32).toNatClampNeg p1) = f8 at hP hD
              refine lv_iconst (v := 0) hx hb dX9_row_49 (by decide) ?_
              refine lv_istore (lv' := [(4, .int 0), (0, .ref (g 0)), (1, .int 2), (2, .int p1), (3, .int p2)]) hx hb dX9_row_50 hl (by decide) rfl (fun ls hl => ?_)
              have loop9 : ∀ (n i9 : Nat) (x9 : Int32) (H : Heap) (locs : List Loc) (ls : Array Slot), i9 ≤ 60 → 60 + 1 ≤ i9 + n → x9 = nI i9 → va_P (dC, dI) vwCl [((g 0), .inr (9, oM g 0 0 0 0 0 0 (-1))), ((g 57), .inl ((a 57), 4, .inl f7)), ((g 58), .inl ((a 58), 4, .inl f8)), ((g 59), .inl ((a 59), 240, .inr (.inl (fun _ => 0))))] H → va_D A [((g 0), .inr (9, oM g 0 0 0 0 0 0 (-1))), ((g 57), .inl ((a 57), 4, .inl f7)), ((g 58), .inl ((a 58), 4, .inl f8)), ((g 59), .inl ((a 59), 240, .inr (.inl (fun _ => 0))))] → va_S A s.heap H locs → lv_has ls 5 [(4, .int x9), (0, .ref (g 0)), (1, .int 2), (2, .int p1), (3, .int p2)] → W p l e ({ frames := 2, cells := 0, slots := 0, locals := 45 }) s m ([.ref (g 0), .int 2, .int p1, .int p2] : List Value).toArray below meth c H locs 0 0 (MQ below (QI dC dI A (fun r : Int32 => r = s_row (2 : Int32).toInt p1.toInt p2.toInt) (fun f => [])) ([.ref (g 0), .int 2, .int p1, .int p2] : List Value).toArray s 0 0 A) (F0 m 52 ls []) := by
                intro n
                induction n with
                | zero => exact fun i x H locs ls h1 h2 => absurd h2 (by omega)
                | succ n ih9 =>
                  intro i9 x9 H locs ls hi hin ex9 hP hD hS hl
                  refine lv_iload hx hb dX9_row_52 (lv_at hl 0 rfl) ?_
                  refine lv_bipush (v := 60) hx hb dX9_row_54 (by decide) ?_
                  refine lv_icmp_ge (tgt := 78) hx hb dX9_row_56 (by decide) (fun cc_ => ?_) (fun cc_ => ?_)
                  · refine lv_iconst (v := 0) hx hb dX9_row_78 (by decide) ?_
                    exact e_i hx hb hr hlocks hP hD hS (fun _ => 0) [] rfl rfl (by unfold s_row; (repeat' split) <;> first | rfl | omega) dX9_row_79
                  · have hlt9 : i9 < 60 := by
                      rcases Nat.lt_or_ge i9 60 with q | q
                      · exact q
                      · exact absurd (by rw [ex9]; exact nI_le q (by omega)) cc_
                    refine lv_aload_n hx hb dX9_row_59 rfl (lv_at hl 1 rfl) ?_
                    refine va_get (D := (dC, dI)) (ci := 9) (v := .ref (g 59)) (C := RX9) (T := TX9) (N := 61) hx hb hT inT9 hown hK hP 0 rfl rfl 59 (by decide) (hT _ mw_289) (fun _ h9 => h9) rfl dX9_row_60 ?_
                    refine lv_bipush (v := 60) hx hb dX9_row_63 (by decide) ?_
                    refine lv_iload_n hx hb dX9_row_65 rfl (lv_at hl 2 rfl) ?_
                    refine lv_imul hx hb dX9_row_66 ?_
                    refine t_i 120 (by decide) ?_
                    refine lv_iload hx hb dX9_row_67 (lv_at hl 0 rfl) ?_
                    refine lv_iadd hx hb dX9_row_69 ?_
                    refine lv_lconst (v := 0) hx hb dX9_row_70 (by decide) ?_
                    refine va_last hx hb hK hP hD hS 3 2 rfl rfl (by rw [ex9, show (120 : Int32) = nI 120 from rfl, nI_add]; exact vp_in_nI (by omega) (by decide)) dX9_row_71 (fun H locs hP hD hS => ?_)
                    have hP : va_P (dC, dI) vwCl [((g 0), .inr (9, oM g 0 0 0 0 0 0 (-1))), ((g 57), .inl ((a 57), 4, .inl f7)), ((g 58), .inl ((a 58), 4, .inl f8)), ((g 59), .inl ((a 59), 240, .inr (.inl (vp_updL (fun _ => 0) (120 + x9).toNatClampNeg 0))))] H := hP
                    have hD : va_D A [((g 0), .inr (9, oM g 0 0 0 0 0 0 (-1))), ((g 57), .inl ((a 57), 4, .inl f7)), ((g 58), .inl ((a 58), 4, .inl f8)), ((g 59), .inl ((a 59), 240, .inr (.inl (vp_updL (fun _ => 0) (120 + x9).toNatClampNeg 0))))] := hD
                    rw [u_zl] at hP hD
                    obtain ⟨y10, ey10⟩ : ∃ y : Int32, y = x9 + 1 := ⟨_, rfl⟩
                    refine lv_iinc (v := y10) (lv' := [(4, .int y10), (0, .ref (g 0)), (1, .int 2), (2, .int p1), (3, .int p2)]) hx hb dX9_row_72 hl (k := 0) rfl (by rw [ey10]; rfl) (by decide) rfl (fun ls hl => ?_)
                    refine lv_goto (tgt := 52) hx hb dX9_row_75 (by decide) ?_
                    exact ih9 (i9 + 1) _ _ _ _ hlt9 (by omega) (by rw [ey10, ex9]; exact nI_1 i9) hP hD hS (lv_sub hl [0, 1, 2, 3, 4] rfl)
              exact loop9 (60 + 1) 0 0 _ _ _ (Nat.zero_le _) (by omega) nI_0.symm hP hD hS hl
            · have c6 := i_nle 0 p2.toInt (by decide) rfl c6
              refine lv_bipush (v := (-3)) hx hb dX9_row_32 (by decide) ?_
              exact e_i hx hb hr hlocks hP hD hS (fun _ => 0) [] rfl rfl (by unfold s_row; (repeat' split) <;> first | rfl | omega) dX9_row_34
          · have c5 := i_nle p2.toInt 60 rfl (by decide) c5
            refine lv_bipush (v := (-2)) hx hb dX9_row_25 (by decide) ?_
            exact e_i hx hb hr hlocks hP hD hS (fun _ => 0) [] rfl rfl (by unfold s_row; (repeat' split) <;> first | rfl | omega) dX9_row_27
      · have er : r = 0 := er.trans (if_neg hc)
        subst er
        refine lv_if_eq (tgt := 25) hx hb dX9_row_16 (by decide) (fun c11 => ?_) (fun c11 => ?_)
        · refine lv_bipush (v := (-2)) hx hb dX9_row_25 (by decide) ?_
          exact e_i hx hb hr hlocks hP hD hS (fun _ => 0) [] rfl rfl (by unfold s_row; (repeat' split) <;> first | rfl | omega) dX9_row_27
        · exact absurd c11 (by decide)
  · refine m_of (Qc := fun A => QI dC dI A (fun r : Int32 => r = s_row (3 : Int32).toInt p1.toInt p2.toInt) (fun f => [])) (lv := [(0, .ref (g 0)), (1, .int 3), (2, .int p1), (3, .int p2)]) (by decide) (Nat.le_of_ble_eq_true rfl) rfl ?_
    intro p e s m below meth c A ls hx hb hr hml hT hown hlocks hname hP hK hD hS hA hl
    have hown : s.vm.findClass RX9 = some m.cls := hown
    have hz0 : (3 : Int32).toInt = 3 := by decide
    refine lv_iload_n hx hb dX9_row_0 rfl (lv_at hl 1 rfl) ?_
    refine c_Si (As := [.int 3]) (rest := []) (wr := [((g 0), .inr (9, oM g 0 0 0 0 0 0 (-1))), ((g 57), .inl ((a 57), 4, .inl nF)), ((g 58), .inl ((a 58), 4, .inl (fun _ => 0))), ((g 59), .inl ((a 59), 240, .inr (.inl (fun _ => 0))))]) (n := 1) ⟨hx, hb, hml, hown, hT⟩ (k_X9_isSlot_5 l dC dI g a ) hK hP hD hS hA [] rfl [] [0, 1, 2, 3] rfl rfl rfl rfl (by decide) mw_233 mw_234 mw_19 mw_235 (by decide +kernel) ⟨Nat.le_of_ble_eq_true rfl, Nat.le_of_ble_eq_true rfl⟩ ⟨rfl, rfl⟩ rfl hl.1 (Nat.le_of_ble_eq_true rfl) rfl dX9_row_1 ⟨Nat.zero_le _, Nat.zero_le _⟩ (fun r f1 H locs er hP hD hS => ?_)
    have hP : va_P (dC, dI) vwCl [((g 0), .inr (9, oM g 0 0 0 0 0 0 (-1))), ((g 57), .inl ((a 57), 4, .inl nF)), ((g 58), .inl ((a 58), 4, .inl (fun _ => 0))), ((g 59), .inl ((a 59), 240, .inr (.inl (fun _ => 0))))] H := hP
    have hD : va_D A [((g 0), .inr (9, oM g 0 0 0 0 0 0 (-1))), ((g 57), .inl ((a 57), 4, .inl nF)), ((g 58), .inl ((a 58), 4, .inl (fun _ => 0))), ((g 59), .inl ((a 59), 240, .inr (.inl (fun _ => 0))))] := hD
    have er : r = 1 := er
    subst er
    refine lv_if_eq (tgt := 25) hx hb dX9_row_4 (by decide) (fun c2 => ?_) (fun c2 => ?_)
    · exact absurd c2 (by decide)
    · refine lv_iload_n hx hb dX9_row_7 rfl (lv_at hl 2 rfl) ?_
      refine lv_i2l (v := p1.toInt64) hx hb dX9_row_8 rfl ?_
      refine lv_lconst (v := 0) hx hb dX9_row_9 (by decide) ?_
      refine lv_ldc2 (v := 3) hx hb hown (hT _ mw_232) dX9_row_10 ?_
      refine c_Si (As := [.long p1.toInt64, .long 0, .long 3]) (rest := []) (wr := [((g 0), .inr (9, oM g 0 0 0 0 0 0 (-1))), ((g 57), .inl ((a 57), 4, .inl nF)), ((g 58), .inl ((a 58), 4, .inl (fun _ => 0))), ((g 59), .inl ((a 59), 240, .inr (.inl (fun _ => 0))))]) (n := 3) ⟨hx, hb, hml, hown, hT⟩ (k_X9_in l dC dI g a p1.toInt64 0 3 p1.toInt 0 3 (Int32.toInt_toInt64 _) (by decide) (by decide)) hK hP hD hS hA [] rfl [] [0, 1, 2, 3] rfl rfl rfl rfl (by decide) mw_17 mw_18 mw_19 mw_20 (by decide +kernel) ⟨Nat.le_of_ble_eq_true rfl, Nat.le_of_ble_eq_true rfl⟩ ⟨rfl, rfl⟩ rfl hl.1 (Nat.le_of_ble_eq_true rfl) rfl dX9_row_13 ⟨Nat.zero_le _, Nat.zero_le _⟩ (fun r f3 H locs er hP hD hS => ?_)
      have hP : va_P (dC, dI) vwCl [((g 0), .inr (9, oM g 0 0 0 0 0 0 (-1))), ((g 57), .inl ((a 57), 4, .inl nF)), ((g 58), .inl ((a 58), 4, .inl (fun _ => 0))), ((g 59), .inl ((a 59), 240, .inr (.inl (fun _ => 0))))] H := hP
      have hD : va_D A [((g 0), .inr (9, oM g 0 0 0 0 0 0 (-1))), ((g 57), .inl ((a 57), 4, .inl nF)), ((g 58), .inl ((a 58), 4, .inl (fun _ => 0))), ((g 59), .inl ((a 59), 240, .inr (.inl (fun _ => 0))))] := hD
      by_cases hc : (0 : Int) ≤ p1.toInt ∧ p1.toInt ≤ (3 : Int)
      · have er : r = 1 := er.trans (if_pos hc)
        subst er
        refine lv_if_eq (tgt := 25) hx hb dX9_row_16 (by decide) (fun c4 => ?_) (fun c4 => ?_)
        · exact absurd c4 (by decide)
        · refine lv_iload_n hx hb dX9_row_19 rfl (lv_at hl 3 rfl) ?_
          refine lv_bipush (v := 60) hx hb dX9_row_20 (by decide) ?_
          refine lv_icmp_le (tgt := 28) hx hb dX9_row_22 (by decide) (fun c5 => ?_) (fun c5 => ?_)
          · have c5 := i_le p2.toInt 60 rfl (by decide) c5
            refine lv_iload_n hx hb dX9_row_28 rfl (lv_at hl 3 rfl) ?_
            refine lv_if_ge (tgt := 35) hx hb dX9_row_29 (by decide) (fun c6 => ?_) (fun c6 => ?_)
            · have c6 := i_le 0 p2.toInt (by decide) rfl c6
              refine lv_aload_n hx hb dX9_row_35 rfl (lv_at hl 0 rfl) ?_
              refine va_get (D := (dC, dI)) (ci := 9) (v := .ref (g 57)) (C := RX9) (T := TX9) (N := 61) hx hb hT inT9 hown hK hP 0 rfl rfl 57 (by decide) (hT _ mw_276) (fun _ h9 => h9) rfl dX9_row_36 ?_
              refine lv_iload_n hx hb dX9_row_39 rfl (lv_at hl 1 rfl) ?_
              refine lv_iload_n hx hb dX9_row_40 rfl (lv_at hl 3 rfl) ?_
              refine va_iast hx hb hK hP hD hS 1 0 rfl rfl (by unfold vp_in; decide) dX9_row_41 (fun H locs hP hD hS => ?_)
              have hP : va_P (dC, dI) vwCl [((g 0), .inr (9, oM g 0 0 0 0 0 0 (-1))), ((g 57), .inl ((a 57), 4, .inl (upd nF (3 : Int32).toNatClampNeg p2))), ((g 58), .inl ((a 58), 4, .inl (fun _ => 0))), ((g 59), .inl ((a 59), 240, .inr (.inl (fun _ => 0))))] H := hP
              have hD : va_D A [((g 0), .inr (9, oM g 0 0 0 0 0 0 (-1))), ((g 57), .inl ((a 57), 4, .inl (upd nF (3 : Int32).toNatClampNeg p2))), ((g 58), .inl ((a 58), 4, .inl (fun _ => 0))), ((g 59), .inl ((a 59), 240, .inr (.inl (fun _ => 0))))] := hD
              generalize (upd nF (3 : Int32).toNatClampNeg p2) = f7 at hP hD
              refine lv_aload_n hx hb dX9_row_42 rfl (lv_at hl 0 rfl) ?_
              refine va_get (D := (dC, dI)) (ci := 9) (v := .ref (g 58)) (C := RX9) (T := TX9) (N := 61) hx hb hT inT9 hown hK hP 0 rfl rfl 58 (by decide) (hT _ mw_288) (fun _ h9 => h9) rfl dX9_row_43 ?_
              refine lv_iload_n hx hb dX9_row_46 rfl (lv_at hl 1 rfl) ?_
              refine lv_iload_n hx hb dX9_row_47 rfl (lv_at hl 2 rfl) ?_
              refine va_iast hx hb hK hP hD hS 2 1 rfl rfl (by unfold vp_in; decide) dX9_row_48 (fun H locs hP hD hS => ?_)
              have hP : va_P (dC, dI) vwCl [((g 0), .inr (9, oM g 0 0 0 0 0 0 (-1))), ((g 57), .inl ((a 57), 4, .inl f7)), ((g 58), .inl ((a 58), 4, .inl (upd (fun _ => 0) (3 : Int32).toNatClampNeg p1))), ((g 59), .inl ((a 59), 240, .inr (.inl (fun _ => 0))))] H := hP
              have hD : va_D A [((g 0), .inr (9, oM g 0 0 0 0 0 0 (-1))), ((g 57), .inl ((a 57), 4, .inl f7)), ((g 58), .inl ((a 58), 4, .inl (upd (fun _ => 0) (3 : Int32).toNatClampNeg p1))), ((g 59), .inl ((a 59), 240, .inr (.inl (fun _ => 0))))] := hD
              generalize (upd (fun _ => 0) (3 : Int32).toNatClampNeg p1) = f8 at hP hD
              refine lv_iconst (v := 0) hx hb dX9_row_49 (by decide) ?_
              refine lv_istore (lv' := [(4, .int 0), (0, .ref (g 0)), (1, .int 3), (2, .int p1), (3, .int p2)]) hx hb dX9_row_50 hl (by decide) rfl (fun ls hl => ?_)
              have loop9 : ∀ (n i9 : Nat) (x9 : Int32) (H : Heap) (locs : List Loc) (ls : Array Slot), i9 ≤ 60 → 60 + 1 ≤ i9 + n → x9 = nI i9 → va_P (dC, dI) vwCl [((g 0), .inr (9, oM g 0 0 0 0 0 0 (-1))), ((g 57), .inl ((a 57), 4, .inl f7)), ((g 58), .inl ((a 58), 4, .inl f8)), ((g 59), .inl ((a 59), 240, .inr (.inl (fun _ => 0))))] H → va_D A [((g 0), .inr (9, oM g 0 0 0 0 0 0 (-1))), ((g 57), .inl ((a 57), 4, .inl f7)), ((g 58), .inl ((a 58), 4, .inl f8)), ((g 59), .inl ((a 59), 240, .inr (.inl (fun _ => 0))))] → va_S A s.heap H locs → lv_has ls 5 [(4, .int x9), (0, .ref (g 0)), (1, .int 3), (2, .int p1), (3, .int p2)] → W p l e ({ frames := 2, cells := 0, slots := 0, locals := 45 }) s m ([.ref (g 0), .int 3, .int p1, .int p2] : List Value).toArray below meth c H locs 0 0 (MQ below (QI dC dI A (fun r : Int32 => r = s_row (3 : Int32).toInt p1.toInt p2.toInt) (fun f => [])) ([.ref (g 0), .int 3, .int p1, .int p2] : List Value).toArray s 0 0 A) (F0 m 52 ls []) := by
                intro n
                induction n with
                | zero => exact fun i x H locs ls h1 h2 => absurd h2 (by omega)
                | succ n ih9 =>
                  intro i9 x9 H locs ls hi hin ex9 hP hD hS hl
                  refine lv_iload hx hb dX9_row_52 (lv_at hl 0 rfl) ?_
                  refine lv_bipush (v := 60) hx hb dX9_row_54 (by decide) ?_
                  refine lv_icmp_ge (tgt := 78) hx hb dX9_row_56 (by decide) (fun cc_ => ?_) (fun cc_ => ?_)
                  · refine lv_iconst (v := 0) hx hb dX9_row_78 (by decide) ?_
                    exact e_i hx hb hr hlocks hP hD hS (fun _ => 0) [] rfl rfl (by unfold s_row; (repeat' split) <;> first | rfl | omega) dX9_row_79
                  · have hlt9 : i9 < 60 := by
                      rcases Nat.lt_or_ge i9 60 with q | q
                      · exact q
                      · exact absurd (by rw [ex9]; exact nI_le q (by omega)) cc_
                    refine lv_aload_n hx hb dX9_row_59 rfl (lv_at hl 1 rfl) ?_
                    refine va_get (D := (dC, dI)) (ci := 9) (v := .ref (g 59)) (C := RX9) (T := TX9) (N := 61) hx hb hT inT9 hown hK hP 0 rfl rfl 59 (by decide) (hT _ mw_289) (fun _ h9 => h9) rfl dX9_row_60 ?_
                    refine lv_bipush (v := 60) hx hb dX9_row_63 (by decide) ?_
                    refine lv_iload_n hx hb dX9_row_65 rfl (lv_at hl 2 rfl) ?_
                    refine lv_imul hx hb dX9_row_66 ?_
                    refine t_i 180 (by decide) ?_
                    refine lv_iload hx hb dX9_row_67 (lv_at hl 0 rfl) ?_
                    refine lv_iadd hx hb dX9_row_69 ?_
                    refine lv_lconst (v := 0) hx hb dX9_row_70 (by decide) ?_
                    refine va_last hx hb hK hP hD hS 3 2 rfl rfl (by rw [ex9, show (180 : Int32) = nI 180 from rfl, nI_add]; exact vp_in_nI (by omega) (by decide)) dX9_row_71 (fun H locs hP hD hS => ?_)
                    have hP : va_P (dC, dI) vwCl [((g 0), .inr (9, oM g 0 0 0 0 0 0 (-1))), ((g 57), .inl ((a 57), 4, .inl f7)), ((g 58), .inl ((a 58), 4, .inl f8)), ((g 59), .inl ((a 59), 240, .inr (.inl (vp_updL (fun _ => 0) (180 + x9).toNatClampNeg 0))))] H := hP
                    have hD : va_D A [((g 0), .inr (9, oM g 0 0 0 0 0 0 (-1))), ((g 57), .inl ((a 57), 4, .inl f7)), ((g 58), .inl ((a 58), 4, .inl f8)), ((g 59), .inl ((a 59), 240, .inr (.inl (vp_updL (fun _ => 0) (180 + x9).toNatClampNeg 0))))] := hD
                    rw [u_zl] at hP hD
                    obtain ⟨y10, ey10⟩ : ∃ y : Int32, y = x9 + 1 := ⟨_, rfl⟩
                    refine lv_iinc (v := y10) (lv' := [(4, .int y10), (0, .ref (g 0)), (1, .int 3), (2, .int p1), (3, .int p2)]) hx hb dX9_row_72 hl (k := 0) rfl (by rw [ey10]; rfl) (by decide) rfl (fun ls hl => ?_)
                    refine lv_goto (tgt := 52) hx hb dX9_row_75 (by decide) ?_
                    exact ih9 (i9 + 1) _ _ _ _ hlt9 (by omega) (by rw [ey10, ex9]; exact nI_1 i9) hP hD hS (lv_sub hl [0, 1, 2, 3, 4] rfl)
              exact loop9 (60 + 1) 0 0 _ _ _ (Nat.zero_le _) (by omega) nI_0.symm hP hD hS hl
            · have c6 := i_nle 0 p2.toInt (by decide) rfl c6
              refine lv_bipush (v := (-3)) hx hb dX9_row_32 (by decide) ?_
              exact e_i hx hb hr hlocks hP hD hS (fun _ => 0) [] rfl rfl (by unfold s_row; (repeat' split) <;> first | rfl | omega) dX9_row_34
          · have c5 := i_nle p2.toInt 60 rfl (by decide) c5
            refine lv_bipush (v := (-2)) hx hb dX9_row_25 (by decide) ?_
            exact e_i hx hb hr hlocks hP hD hS (fun _ => 0) [] rfl rfl (by unfold s_row; (repeat' split) <;> first | rfl | omega) dX9_row_27
      · have er : r = 0 := er.trans (if_neg hc)
        subst er
        refine lv_if_eq (tgt := 25) hx hb dX9_row_16 (by decide) (fun c11 => ?_) (fun c11 => ?_)
        · refine lv_bipush (v := (-2)) hx hb dX9_row_25 (by decide) ?_
          exact e_i hx hb hr hlocks hP hD hS (fun _ => 0) [] rfl rfl (by unfold s_row; (repeat' split) <;> first | rfl | omega) dX9_row_27
        · exact absurd c11 (by decide)
  · refine m_of (Qc := fun A => QI dC dI A (fun r : Int32 => r = s_row p0.toInt p1.toInt p2.toInt) (fun f => [])) (lv := [(0, .ref (g 0)), (1, .int p0), (2, .int p1), (3, .int p2)]) (by decide) (Nat.le_of_ble_eq_true rfl) rfl ?_
    intro p e s m below meth c A ls hx hb hr hml hT hown hlocks hname hP hK hD hS hA hl
    have hown : s.vm.findClass RX9 = some m.cls := hown
    refine lv_iload_n hx hb dX9_row_0 rfl (lv_at hl 1 rfl) ?_
    refine c_Si (As := [.int p0]) (rest := []) (wr := [((g 0), .inr (9, oM g 0 0 0 0 0 0 (-1))), ((g 57), .inl ((a 57), 4, .inl nF)), ((g 58), .inl ((a 58), 4, .inl (fun _ => 0))), ((g 59), .inl ((a 59), 240, .inr (.inl (fun _ => 0))))]) (n := 1) ⟨hx, hb, hml, hown, hT⟩ (k_X9_isSlot l dC dI g a p0) hK hP hD hS hA [] rfl [] [0, 1, 2, 3] rfl rfl rfl rfl (by decide) mw_233 mw_234 mw_19 mw_235 (by decide +kernel) ⟨Nat.le_of_ble_eq_true rfl, Nat.le_of_ble_eq_true rfl⟩ ⟨rfl, rfl⟩ rfl hl.1 (Nat.le_of_ble_eq_true rfl) rfl dX9_row_1 ⟨Nat.zero_le _, Nat.zero_le _⟩ (fun r f1 H locs er hP hD hS => ?_)
    have hP : va_P (dC, dI) vwCl [((g 0), .inr (9, oM g 0 0 0 0 0 0 (-1))), ((g 57), .inl ((a 57), 4, .inl nF)), ((g 58), .inl ((a 58), 4, .inl (fun _ => 0))), ((g 59), .inl ((a 59), 240, .inr (.inl (fun _ => 0))))] H := hP
    have hD : va_D A [((g 0), .inr (9, oM g 0 0 0 0 0 0 (-1))), ((g 57), .inl ((a 57), 4, .inl nF)), ((g 58), .inl ((a 58), 4, .inl (fun _ => 0))), ((g 59), .inl ((a 59), 240, .inr (.inl (fun _ => 0))))] := hD
    by_cases hc : 0 ≤ p0.toInt ∧ p0.toInt ≤ 3
    · omega
    · have er : r = 0 := er.trans (if_neg hc)
      subst er
      refine lv_if_eq (tgt := 25) hx hb dX9_row_4 (by decide) (fun c2 => ?_) (fun c2 => ?_)
      · refine lv_bipush (v := (-2)) hx hb dX9_row_25 (by decide) ?_
        exact e_i hx hb hr hlocks hP hD hS (fun _ => 0) [] rfl rfl (by unfold s_row; (repeat' split) <;> first | rfl | omega) dX9_row_27
      · exact absurd c2 (by decide)
  · refine m_of (Qc := fun A => QI dC dI A (fun r : Int32 => r = s_row p0.toInt p1.toInt p2.toInt) (fun f => [])) (lv := [(0, .ref (g 0)), (1, .int p0), (2, .int p1), (3, .int p2)]) (by decide) (Nat.le_of_ble_eq_true rfl) rfl ?_
    intro p e s m below meth c A ls hx hb hr hml hT hown hlocks hname hP hK hD hS hA hl
    have hown : s.vm.findClass RX9 = some m.cls := hown
    refine lv_iload_n hx hb dX9_row_0 rfl (lv_at hl 1 rfl) ?_
    refine c_Si (As := [.int p0]) (rest := []) (wr := [((g 0), .inr (9, oM g 0 0 0 0 0 0 (-1))), ((g 57), .inl ((a 57), 4, .inl nF)), ((g 58), .inl ((a 58), 4, .inl (fun _ => 0))), ((g 59), .inl ((a 59), 240, .inr (.inl (fun _ => 0))))]) (n := 1) ⟨hx, hb, hml, hown, hT⟩ (k_X9_isSlot l dC dI g a p0) hK hP hD hS hA [] rfl [] [0, 1, 2, 3] rfl rfl rfl rfl (by decide) mw_233 mw_234 mw_19 mw_235 (by decide +kernel) ⟨Nat.le_of_ble_eq_true rfl, Nat.le_of_ble_eq_true rfl⟩ ⟨rfl, rfl⟩ rfl hl.1 (Nat.le_of_ble_eq_true rfl) rfl dX9_row_1 ⟨Nat.zero_le _, Nat.zero_le _⟩ (fun r f1 H locs er hP hD hS => ?_)
    have hP : va_P (dC, dI) vwCl [((g 0), .inr (9, oM g 0 0 0 0 0 0 (-1))), ((g 57), .inl ((a 57), 4, .inl nF)), ((g 58), .inl ((a 58), 4, .inl (fun _ => 0))), ((g 59), .inl ((a 59), 240, .inr (.inl (fun _ => 0))))] H := hP
    have hD : va_D A [((g 0), .inr (9, oM g 0 0 0 0 0 0 (-1))), ((g 57), .inl ((a 57), 4, .inl nF)), ((g 58), .inl ((a 58), 4, .inl (fun _ => 0))), ((g 59), .inl ((a 59), 240, .inr (.inl (fun _ => 0))))] := hD
    by_cases hc : 0 ≤ p0.toInt ∧ p0.toInt ≤ 3
    · omega
    · have er : r = 0 := er.trans (if_neg hc)
      subst er
      refine lv_if_eq (tgt := 25) hx hb dX9_row_4 (by decide) (fun c2 => ?_) (fun c2 => ?_)
      · refine lv_bipush (v := (-2)) hx hb dX9_row_25 (by decide) ?_
        exact e_i hx hb hr hlocks hP hD hS (fun _ => 0) [] rfl rfl (by unfold s_row; (repeat' split) <;> first | rfl | omega) dX9_row_27
      · exact absurd c2 (by decide)
set_option maxRecDepth 100000 in
set_option maxHeartbeats 4000000 in
theorem k_X5_hasRow_5 (l : Launch) (dC : Nat → ClassId) (dI : Nat → Nat → Nat) (g : Nat → Nat) (a : Nat → ClassId) (p0 : Int32) (h0a : 0 ≤ p0.toInt) (h0b : p0.toInt ≤ 3) : MI l dC dI yX5_hasRow (Cond.code yX5_hasRow cX5_hasRow 2 (some .boolean)) ({ frames := 0, cells := 0, slots := 0, locals := 0 }) [.ref (g 66), .int p0] [((a 68), .int)] [((g 66), .inr (5, [.ref (g 67), .ref (g 68), .ref (g 69)])), ((g 68), .inl ((a 68), 4, .inl nF))] (fun r : Int32 => r = 0) (fun f => [((g 66), .inr (5, [.ref (g 67), .ref (g 68), .ref (g 69)])), ((g 68), .inl ((a 68), 4, .inl nF))]) := by
  refine m_of (Qc := fun A => QI dC dI A (fun r : Int32 => r = 0) (fun f => [((g 66), .inr (5, [.ref (g 67), .ref (g 68), .ref (g 69)])), ((g 68), .inl ((a 68), 4, .inl nF))])) (lv := [(0, .ref (g 66)), (1, .int p0)]) (by decide) (Nat.le_of_ble_eq_true rfl) rfl ?_
  intro p e s m below meth c A ls hx hb hr hml hT hown hlocks hname hP hK hD hS hA hl
  have hown : s.vm.findClass RX5 = some m.cls := hown
  refine lv_aload_n hx hb dX5_hasRow_0 rfl (lv_at hl 0 rfl) ?_
  refine va_get (D := (dC, dI)) (ci := 5) (v := .ref (g 68)) (C := RX5) (T := TX5) (N := 3) hx hb hT inT5 hown hK hP 0 rfl rfl 1 (by decide) (hT _ mw_266) (fun _ h9 => h9) rfl dX5_hasRow_1 ?_
  refine lv_iload_n hx hb dX5_hasRow_4 rfl (lv_at hl 1 rfl) ?_
  refine va_iald hx hb hK hP 1 0 rfl rfl (i_in (by omega) (by omega)) dX5_hasRow_5 ?_
  refine t_i (-1) (nF_at (by omega) (by omega)) ?_
  refine lv_iconst (v := (-1)) hx hb dX5_hasRow_6 (by decide) ?_
  refine lv_icmp_eq (tgt := 14) hx hb dX5_hasRow_7 (by decide) (fun c1 => ?_) (fun c1 => ?_)
  · refine lv_iconst (v := 0) hx hb dX5_hasRow_14 (by decide) ?_
    exact e_z hx hb hr hlocks hP hD hS (fun _ => 0) [0, 1] rfl rfl rfl rfl dX5_hasRow_15
  · exact absurd c1 (by decide)
set_option maxRecDepth 100000 in
set_option maxHeartbeats 4000000 in
theorem k_X8_write (l : Launch) (dC : Nat → ClassId) (dI : Nat → Nat → Nat) (g : Nat → Nat) (a : Nat → ClassId) (p0 : Int32) (p1 : Int32) (p2 : Int64)  : MI l dC dI yX8_write (Cond.code yX8_write cX8_write 5 (some .int)) ({ frames := 1, cells := 0, slots := 0, locals := 21 }) [.ref (g 0), .int p0, .int p1, .long p2] [((a 68), .int)] [((g 0), .inr (8, [.ref (g 1), .ref (g 2), .ref (g 4), .ref (g 16), .ref (g 64), .ref (g 65), .ref (g 66), .ref (g 70), .ref (g 75), .ref (g 87), .ref (g 94), .int 0, .int 0, .int 0])), ((g 66), .inr (5, [.ref (g 67), .ref (g 68), .ref (g 69)])), ((g 68), .inl ((a 68), 4, .inl nF))] (fun r : Int32 => r = s_write p0.toInt) (fun f => []) := by
  refine m_of (Qc := fun A => QI dC dI A (fun r : Int32 => r = s_write p0.toInt) (fun f => [])) (lv := [(0, .ref (g 0)), (1, .int p0), (2, .int p1), (3, .long p2)]) (by decide) (Nat.le_of_ble_eq_true rfl) rfl ?_
  intro p e s m below meth c A ls hx hb hr hml hT hown hlocks hname hP hK hD hS hA hl
  have hown : s.vm.findClass RX8 = some m.cls := hown
  refine lv_aload_n hx hb dX8_write_0 rfl (lv_at hl 0 rfl) ?_
  refine va_get (D := (dC, dI)) (ci := 8) (v := .ref (g 66)) (C := RX8) (T := TX8) (N := 14) hx hb hT inT8 hown hK hP 0 rfl rfl 6 (by decide) (hT _ mw_222) (fun _ h9 => h9) rfl dX8_write_1 ?_
  refine lv_iload_n hx hb dX8_write_4 rfl (lv_at hl 1 rfl) ?_
  refine c_Vi (C := RX5) (As := [.int p0]) (rest := []) (wr := [((g 0), .inr (8, [.ref (g 1), .ref (g 2), .ref (g 4), .ref (g 16), .ref (g 64), .ref (g 65), .ref (g 66), .ref (g 70), .ref (g 75), .ref (g 87), .ref (g 94), .int 0, .int 0, .int 0])), ((g 68), .inl ((a 68), 4, .inl nF))]) (n := 1) ⟨hx, hb, hml, hown, hT⟩ (k_X5_isSlot l dC dI g a p0) hK hP hD hS hA [] rfl [1] [0, 2] rfl rfl rfl rfl (by decide) rfl rfl mw_223 mw_224 mw_225 mw_226 mw_227 (by decide +kernel) ⟨Nat.le_of_ble_eq_true rfl, Nat.le_of_ble_eq_true rfl⟩ ⟨rfl, rfl⟩ rfl hl.1 (Nat.le_of_ble_eq_true rfl) rfl dX8_write_5 ⟨Nat.zero_le _, Nat.zero_le _⟩ (fun r f1 H locs er hP hD hS => ?_)
  have hP : va_P (dC, dI) vwCl [((g 0), .inr (8, [.ref (g 1), .ref (g 2), .ref (g 4), .ref (g 16), .ref (g 64), .ref (g 65), .ref (g 66), .ref (g 70), .ref (g 75), .ref (g 87), .ref (g 94), .int 0, .int 0, .int 0])), ((g 68), .inl ((a 68), 4, .inl nF)), ((g 66), .inr (5, [.ref (g 67), .ref (g 68), .ref (g 69)]))] H := hP
  have hD : va_D A [((g 0), .inr (8, [.ref (g 1), .ref (g 2), .ref (g 4), .ref (g 16), .ref (g 64), .ref (g 65), .ref (g 66), .ref (g 70), .ref (g 75), .ref (g 87), .ref (g 94), .int 0, .int 0, .int 0])), ((g 68), .inl ((a 68), 4, .inl nF)), ((g 66), .inr (5, [.ref (g 67), .ref (g 68), .ref (g 69)]))] := hD
  by_cases hc : 0 ≤ p0.toInt ∧ p0.toInt ≤ 3
  · have er : r = 1 := er.trans (if_pos hc)
    subst er
    refine lv_if_ne (tgt := 14) hx hb dX8_write_8 (by decide) (fun c2 => ?_) (fun c2 => ?_)
    · refine lv_aload_n hx hb dX8_write_14 rfl (lv_at hl 0 rfl) ?_
      refine va_get (D := (dC, dI)) (ci := 8) (v := .ref (g 66)) (C := RX8) (T := TX8) (N := 14) hx hb hT inT8 hown hK hP 0 rfl rfl 6 (by decide) (hT _ mw_222) (fun _ h9 => h9) rfl dX8_write_15 ?_
      refine lv_iload_n hx hb dX8_write_18 rfl (lv_at hl 1 rfl) ?_
      refine c_Vi (C := RX5) (As := [.int p0]) (rest := []) (wr := [((g 0), .inr (8, [.ref (g 1), .ref (g 2), .ref (g 4), .ref (g 16), .ref (g 64), .ref (g 65), .ref (g 66), .ref (g 70), .ref (g 75), .ref (g 87), .ref (g 94), .int 0, .int 0, .int 0]))]) (n := 1) ⟨hx, hb, hml, hown, hT⟩ (k_X5_hasRow_5 l dC dI g a p0 (by omega) (by omega)) hK hP hD hS hA [0] rfl [2, 1] [0] rfl rfl rfl rfl (by decide) rfl rfl mw_290 mw_268 mw_269 mw_226 mw_270 (by decide +kernel) ⟨Nat.le_of_ble_eq_true rfl, Nat.le_of_ble_eq_true rfl⟩ ⟨rfl, rfl⟩ rfl hl.1 (Nat.le_of_ble_eq_true rfl) rfl dX8_write_19 ⟨Nat.zero_le _, Nat.zero_le _⟩ (fun r f3 H locs er hP hD hS => ?_)
      have hP : va_P (dC, dI) vwCl [((g 0), .inr (8, [.ref (g 1), .ref (g 2), .ref (g 4), .ref (g 16), .ref (g 64), .ref (g 65), .ref (g 66), .ref (g 70), .ref (g 75), .ref (g 87), .ref (g 94), .int 0, .int 0, .int 0])), ((g 66), .inr (5, [.ref (g 67), .ref (g 68), .ref (g 69)])), ((g 68), .inl ((a 68), 4, .inl nF))] H := hP
      have hD : va_D A [((g 0), .inr (8, [.ref (g 1), .ref (g 2), .ref (g 4), .ref (g 16), .ref (g 64), .ref (g 65), .ref (g 66), .ref (g 70), .ref (g 75), .ref (g 87), .ref (g 94), .int 0, .int 0, .int 0])), ((g 66), .inr (5, [.ref (g 67), .ref (g 68), .ref (g 69)])), ((g 68), .inl ((a 68), 4, .inl nF))] := hD
      have er : r = 0 := er
      subst er
      refine lv_if_ne (tgt := 28) hx hb dX8_write_22 (by decide) (fun c4 => ?_) (fun c4 => ?_)
      · exact absurd c4 (by decide)
      · refine lv_bipush (v := (-6)) hx hb dX8_write_25 (by decide) ?_
        exact e_i hx hb hr hlocks hP hD hS (fun _ => 0) [] rfl rfl (by unfold s_write; (repeat' split) <;> first | rfl | omega) dX8_write_27
    · exact absurd c2 (by decide)
  · have er : r = 0 := er.trans (if_neg hc)
    subst er
    refine lv_if_ne (tgt := 14) hx hb dX8_write_8 (by decide) (fun c5 => ?_) (fun c5 => ?_)
    · exact absurd c5 (by decide)
    · refine lv_bipush (v := (-2)) hx hb dX8_write_11 (by decide) ?_
      exact e_i hx hb hr hlocks hP hD hS (fun _ => 0) [] rfl rfl (by unfold s_write; (repeat' split) <;> first | rfl | omega) dX8_write_13
set_option maxRecDepth 100000 in
set_option maxHeartbeats 4000000 in
theorem k_X9_write (l : Launch) (dC : Nat → ClassId) (dI : Nat → Nat → Nat) (g : Nat → Nat) (a : Nat → ClassId) (p0 : Int32) (p1 : Int32) (p2 : Int64)  : MI l dC dI yX9_write (Cond.code yX9_write cX9_write 5 (some .int)) ({ frames := 2, cells := 0, slots := 0, locals := 45 }) [.ref (g 0), .int p0, .int p1, .long p2] [((a 57), .int)] [((g 0), .inr (9, oM g 0 0 0 0 0 0 (-1))), ((g 57), .inl ((a 57), 4, .inl nF))] (fun r : Int32 => r = s_write p0.toInt) (fun f => []) := by
  refine m_of (Qc := fun A => QI dC dI A (fun r : Int32 => r = s_write p0.toInt) (fun f => [])) (lv := [(0, .ref (g 0)), (1, .int p0), (2, .int p1), (3, .long p2)]) (by decide) (Nat.le_of_ble_eq_true rfl) rfl ?_
  intro p e s m below meth c A ls hx hb hr hml hT hown hlocks hname hP hK hD hS hA hl
  have hown : s.vm.findClass RX9 = some m.cls := hown
  refine lv_iload_n hx hb dX9_write_0 rfl (lv_at hl 1 rfl) ?_
  refine c_Si (As := [.int p0]) (rest := []) (wr := [((g 0), .inr (9, oM g 0 0 0 0 0 0 (-1))), ((g 57), .inl ((a 57), 4, .inl nF))]) (n := 1) ⟨hx, hb, hml, hown, hT⟩ (k_X9_isSlot l dC dI g a p0) hK hP hD hS hA [] rfl [] [0, 1] rfl rfl rfl rfl (by decide) mw_233 mw_234 mw_19 mw_235 (by decide +kernel) ⟨Nat.le_of_ble_eq_true rfl, Nat.le_of_ble_eq_true rfl⟩ ⟨rfl, rfl⟩ rfl hl.1 (Nat.le_of_ble_eq_true rfl) rfl dX9_write_1 ⟨Nat.zero_le _, Nat.zero_le _⟩ (fun r f1 H locs er hP hD hS => ?_)
  have hP : va_P (dC, dI) vwCl [((g 0), .inr (9, oM g 0 0 0 0 0 0 (-1))), ((g 57), .inl ((a 57), 4, .inl nF))] H := hP
  have hD : va_D A [((g 0), .inr (9, oM g 0 0 0 0 0 0 (-1))), ((g 57), .inl ((a 57), 4, .inl nF))] := hD
  by_cases hc : 0 ≤ p0.toInt ∧ p0.toInt ≤ 3
  · have er : r = 1 := er.trans (if_pos hc)
    subst er
    refine lv_if_ne (tgt := 10) hx hb dX9_write_4 (by decide) (fun c2 => ?_) (fun c2 => ?_)
    · refine lv_aload_n hx hb dX9_write_10 rfl (lv_at hl 0 rfl) ?_
      refine va_get (D := (dC, dI)) (ci := 9) (v := .ref (g 57)) (C := RX9) (T := TX9) (N := 61) hx hb hT inT9 hown hK hP 0 rfl rfl 57 (by decide) (hT _ mw_276) (fun _ h9 => h9) rfl dX9_write_11 ?_
      refine lv_iload_n hx hb dX9_write_14 rfl (lv_at hl 1 rfl) ?_
      refine va_iald hx hb hK hP 1 0 rfl rfl (i_in (by omega) (by omega)) dX9_write_15 ?_
      refine t_i (-1) (nF_at (by omega) (by omega)) ?_
      refine lv_iconst (v := (-1)) hx hb dX9_write_16 (by decide) ?_
      refine lv_icmp_ne (tgt := 23) hx hb dX9_write_17 (by decide) (fun c3 => ?_) (fun c3 => ?_)
      · exact absurd c3 (by decide)
      · refine lv_bipush (v := (-6)) hx hb dX9_write_20 (by decide) ?_
        exact e_i hx hb hr hlocks hP hD hS (fun _ => 0) [] rfl rfl (by unfold s_write; (repeat' split) <;> first | rfl | omega) dX9_write_22
    · exact absurd c2 (by decide)
  · have er : r = 0 := er.trans (if_neg hc)
    subst er
    refine lv_if_ne (tgt := 10) hx hb dX9_write_4 (by decide) (fun c4 => ?_) (fun c4 => ?_)
    · exact absurd c4 (by decide)
    · refine lv_bipush (v := (-2)) hx hb dX9_write_7 (by decide) ?_
      exact e_i hx hb hr hlocks hP hD hS (fun _ => 0) [] rfl rfl (by unfold s_write; (repeat' split) <;> first | rfl | omega) dX9_write_9
set_option maxRecDepth 100000 in
set_option maxHeartbeats 4000000 in
theorem k_X8_paste (l : Launch) (dC : Nat → ClassId) (dI : Nat → Nat → Nat) (g : Nat → Nat) (a : Nat → ClassId) (p0 : Int32) (p1 : Int32) (p2 : Int32) (p3 : Int32) (p4 : Int32)  : MI l dC dI yX8_paste (Cond.code yX8_paste cX8_paste 6 (some .int)) ({ frames := 1, cells := 0, slots := 0, locals := 21 }) [.ref (g 0), .int p0, .int p1, .int p2, .int p3, .int p4] [((a 68), .int)] [((g 0), .inr (8, [.ref (g 1), .ref (g 2), .ref (g 4), .ref (g 16), .ref (g 64), .ref (g 65), .ref (g 66), .ref (g 70), .ref (g 75), .ref (g 87), .ref (g 94), .int 0, .int 0, .int 0])), ((g 66), .inr (5, [.ref (g 67), .ref (g 68), .ref (g 69)])), ((g 68), .inl ((a 68), 4, .inl nF))] (fun r : Int32 => r = s_paste p0.toInt p2.toInt) (fun f => []) := by
  refine m_of (Qc := fun A => QI dC dI A (fun r : Int32 => r = s_paste p0.toInt p2.toInt) (fun f => [])) (lv := [(0, .ref (g 0)), (1, .int p0), (2, .int p1), (3, .int p2), (4, .int p3), (5, .int p4)]) (by decide) (Nat.le_of_ble_eq_true rfl) rfl ?_
  intro p e s m below meth c A ls hx hb hr hml hT hown hlocks hname hP hK hD hS hA hl
  have hown : s.vm.findClass RX8 = some m.cls := hown
  refine lv_aload_n hx hb dX8_paste_0 rfl (lv_at hl 0 rfl) ?_
  refine va_get (D := (dC, dI)) (ci := 8) (v := .ref (g 66)) (C := RX8) (T := TX8) (N := 14) hx hb hT inT8 hown hK hP 0 rfl rfl 6 (by decide) (hT _ mw_222) (fun _ h9 => h9) rfl dX8_paste_1 ?_
  refine lv_iload_n hx hb dX8_paste_4 rfl (lv_at hl 1 rfl) ?_
  refine c_Vi (C := RX5) (As := [.int p0]) (rest := []) (wr := [((g 0), .inr (8, [.ref (g 1), .ref (g 2), .ref (g 4), .ref (g 16), .ref (g 64), .ref (g 65), .ref (g 66), .ref (g 70), .ref (g 75), .ref (g 87), .ref (g 94), .int 0, .int 0, .int 0])), ((g 68), .inl ((a 68), 4, .inl nF))]) (n := 1) ⟨hx, hb, hml, hown, hT⟩ (k_X5_isSlot l dC dI g a p0) hK hP hD hS hA [] rfl [1] [0, 2] rfl rfl rfl rfl (by decide) rfl rfl mw_223 mw_224 mw_225 mw_226 mw_227 (by decide +kernel) ⟨Nat.le_of_ble_eq_true rfl, Nat.le_of_ble_eq_true rfl⟩ ⟨rfl, rfl⟩ rfl hl.1 (Nat.le_of_ble_eq_true rfl) rfl dX8_paste_5 ⟨Nat.zero_le _, Nat.zero_le _⟩ (fun r f1 H locs er hP hD hS => ?_)
  have hP : va_P (dC, dI) vwCl [((g 0), .inr (8, [.ref (g 1), .ref (g 2), .ref (g 4), .ref (g 16), .ref (g 64), .ref (g 65), .ref (g 66), .ref (g 70), .ref (g 75), .ref (g 87), .ref (g 94), .int 0, .int 0, .int 0])), ((g 68), .inl ((a 68), 4, .inl nF)), ((g 66), .inr (5, [.ref (g 67), .ref (g 68), .ref (g 69)]))] H := hP
  have hD : va_D A [((g 0), .inr (8, [.ref (g 1), .ref (g 2), .ref (g 4), .ref (g 16), .ref (g 64), .ref (g 65), .ref (g 66), .ref (g 70), .ref (g 75), .ref (g 87), .ref (g 94), .int 0, .int 0, .int 0])), ((g 68), .inl ((a 68), 4, .inl nF)), ((g 66), .inr (5, [.ref (g 67), .ref (g 68), .ref (g 69)]))] := hD
  by_cases hc : 0 ≤ p0.toInt ∧ p0.toInt ≤ 3
  · have er : r = 1 := er.trans (if_pos hc)
    subst er
    refine lv_if_eq (tgt := 22) hx hb dX8_paste_8 (by decide) (fun c2 => ?_) (fun c2 => ?_)
    · exact absurd c2 (by decide)
    · refine lv_aload_n hx hb dX8_paste_11 rfl (lv_at hl 0 rfl) ?_
      refine va_get (D := (dC, dI)) (ci := 8) (v := .ref (g 66)) (C := RX8) (T := TX8) (N := 14) hx hb hT inT8 hown hK hP 0 rfl rfl 6 (by decide) (hT _ mw_222) (fun _ h9 => h9) rfl dX8_paste_12 ?_
      refine lv_iload_n hx hb dX8_paste_15 rfl (lv_at hl 3 rfl) ?_
      refine c_Vi (C := RX5) (As := [.int p2]) (rest := []) (wr := [((g 0), .inr (8, [.ref (g 1), .ref (g 2), .ref (g 4), .ref (g 16), .ref (g 64), .ref (g 65), .ref (g 66), .ref (g 70), .ref (g 75), .ref (g 87), .ref (g 94), .int 0, .int 0, .int 0])), ((g 68), .inl ((a 68), 4, .inl nF))]) (n := 1) ⟨hx, hb, hml, hown, hT⟩ (k_X5_isSlot l dC dI g a p2) hK hP hD hS hA [] rfl [2] [0, 1] rfl rfl rfl rfl (by decide) rfl rfl mw_223 mw_224 mw_225 mw_226 mw_227 (by decide +kernel) ⟨Nat.le_of_ble_eq_true rfl, Nat.le_of_ble_eq_true rfl⟩ ⟨rfl, rfl⟩ rfl hl.1 (Nat.le_of_ble_eq_true rfl) rfl dX8_paste_16 ⟨Nat.zero_le _, Nat.zero_le _⟩ (fun r f3 H locs er hP hD hS => ?_)
      have hP : va_P (dC, dI) vwCl [((g 0), .inr (8, [.ref (g 1), .ref (g 2), .ref (g 4), .ref (g 16), .ref (g 64), .ref (g 65), .ref (g 66), .ref (g 70), .ref (g 75), .ref (g 87), .ref (g 94), .int 0, .int 0, .int 0])), ((g 68), .inl ((a 68), 4, .inl nF)), ((g 66), .inr (5, [.ref (g 67), .ref (g 68), .ref (g 69)]))] H := hP
      have hD : va_D A [((g 0), .inr (8, [.ref (g 1), .ref (g 2), .ref (g 4), .ref (g 16), .ref (g 64), .ref (g 65), .ref (g 66), .ref (g 70), .ref (g 75), .ref (g 87), .ref (g 94), .int 0, .int 0, .int 0])), ((g 68), .inl ((a 68), 4, .inl nF)), ((g 66), .inr (5, [.ref (g 67), .ref (g 68), .ref (g 69)]))] := hD
      by_cases hc : 0 ≤ p2.toInt ∧ p2.toInt ≤ 3
      · have er : r = 1 := er.trans (if_pos hc)
        subst er
        refine lv_if_ne (tgt := 25) hx hb dX8_paste_19 (by decide) (fun c4 => ?_) (fun c4 => ?_)
        · refine lv_aload_n hx hb dX8_paste_25 rfl (lv_at hl 0 rfl) ?_
          refine va_get (D := (dC, dI)) (ci := 8) (v := .ref (g 66)) (C := RX8) (T := TX8) (N := 14) hx hb hT inT8 hown hK hP 0 rfl rfl 6 (by decide) (hT _ mw_222) (fun _ h9 => h9) rfl dX8_paste_26 ?_
          refine lv_iload_n hx hb dX8_paste_29 rfl (lv_at hl 1 rfl) ?_
          refine c_Vi (C := RX5) (As := [.int p0]) (rest := []) (wr := [((g 0), .inr (8, [.ref (g 1), .ref (g 2), .ref (g 4), .ref (g 16), .ref (g 64), .ref (g 65), .ref (g 66), .ref (g 70), .ref (g 75), .ref (g 87), .ref (g 94), .int 0, .int 0, .int 0]))]) (n := 1) ⟨hx, hb, hml, hown, hT⟩ (k_X5_hasRow_5 l dC dI g a p0 (by omega) (by omega)) hK hP hD hS hA [0] rfl [2, 1] [0] rfl rfl rfl rfl (by decide) rfl rfl mw_290 mw_268 mw_269 mw_226 mw_270 (by decide +kernel) ⟨Nat.le_of_ble_eq_true rfl, Nat.le_of_ble_eq_true rfl⟩ ⟨rfl, rfl⟩ rfl hl.1 (Nat.le_of_ble_eq_true rfl) rfl dX8_paste_30 ⟨Nat.zero_le _, Nat.zero_le _⟩ (fun r f5 H locs er hP hD hS => ?_)
          have hP : va_P (dC, dI) vwCl [((g 0), .inr (8, [.ref (g 1), .ref (g 2), .ref (g 4), .ref (g 16), .ref (g 64), .ref (g 65), .ref (g 66), .ref (g 70), .ref (g 75), .ref (g 87), .ref (g 94), .int 0, .int 0, .int 0])), ((g 66), .inr (5, [.ref (g 67), .ref (g 68), .ref (g 69)])), ((g 68), .inl ((a 68), 4, .inl nF))] H := hP
          have hD : va_D A [((g 0), .inr (8, [.ref (g 1), .ref (g 2), .ref (g 4), .ref (g 16), .ref (g 64), .ref (g 65), .ref (g 66), .ref (g 70), .ref (g 75), .ref (g 87), .ref (g 94), .int 0, .int 0, .int 0])), ((g 66), .inr (5, [.ref (g 67), .ref (g 68), .ref (g 69)])), ((g 68), .inl ((a 68), 4, .inl nF))] := hD
          have er : r = 0 := er
          subst er
          refine lv_if_eq (tgt := 47) hx hb dX8_paste_33 (by decide) (fun c6 => ?_) (fun c6 => ?_)
          · refine lv_bipush (v := (-6)) hx hb dX8_paste_47 (by decide) ?_
            exact e_i hx hb hr hlocks hP hD hS (fun _ => 0) [] rfl rfl (by unfold s_paste; (repeat' split) <;> first | rfl | omega) dX8_paste_49
          · exact absurd c6 (by decide)
        · exact absurd c4 (by decide)
      · have er : r = 0 := er.trans (if_neg hc)
        subst er
        refine lv_if_ne (tgt := 25) hx hb dX8_paste_19 (by decide) (fun c7 => ?_) (fun c7 => ?_)
        · exact absurd c7 (by decide)
        · refine lv_bipush (v := (-2)) hx hb dX8_paste_22 (by decide) ?_
          exact e_i hx hb hr hlocks hP hD hS (fun _ => 0) [] rfl rfl (by unfold s_paste; (repeat' split) <;> first | rfl | omega) dX8_paste_24
  · have er : r = 0 := er.trans (if_neg hc)
    subst er
    refine lv_if_eq (tgt := 22) hx hb dX8_paste_8 (by decide) (fun c8 => ?_) (fun c8 => ?_)
    · refine lv_bipush (v := (-2)) hx hb dX8_paste_22 (by decide) ?_
      exact e_i hx hb hr hlocks hP hD hS (fun _ => 0) [] rfl rfl (by unfold s_paste; (repeat' split) <;> first | rfl | omega) dX8_paste_24
    · exact absurd c8 (by decide)
set_option maxRecDepth 100000 in
set_option maxHeartbeats 4000000 in
theorem k_X9_paste (l : Launch) (dC : Nat → ClassId) (dI : Nat → Nat → Nat) (g : Nat → Nat) (a : Nat → ClassId) (p0 : Int32) (p1 : Int32) (p2 : Int32) (p3 : Int32) (p4 : Int32)  : MI l dC dI yX9_paste (Cond.code yX9_paste cX9_paste 7 (some .int)) ({ frames := 2, cells := 0, slots := 0, locals := 45 }) [.ref (g 0), .int p0, .int p1, .int p2, .int p3, .int p4] [((a 57), .int)] [((g 0), .inr (9, oM g 0 0 0 0 0 0 (-1))), ((g 57), .inl ((a 57), 4, .inl nF))] (fun r : Int32 => r = s_paste p0.toInt p2.toInt) (fun f => []) := by
  refine m_of (Qc := fun A => QI dC dI A (fun r : Int32 => r = s_paste p0.toInt p2.toInt) (fun f => [])) (lv := [(0, .ref (g 0)), (1, .int p0), (2, .int p1), (3, .int p2), (4, .int p3), (5, .int p4)]) (by decide) (Nat.le_of_ble_eq_true rfl) rfl ?_
  intro p e s m below meth c A ls hx hb hr hml hT hown hlocks hname hP hK hD hS hA hl
  have hown : s.vm.findClass RX9 = some m.cls := hown
  refine lv_iload_n hx hb dX9_paste_0 rfl (lv_at hl 1 rfl) ?_
  refine c_Si (As := [.int p0]) (rest := []) (wr := [((g 0), .inr (9, oM g 0 0 0 0 0 0 (-1))), ((g 57), .inl ((a 57), 4, .inl nF))]) (n := 1) ⟨hx, hb, hml, hown, hT⟩ (k_X9_isSlot l dC dI g a p0) hK hP hD hS hA [] rfl [] [0, 1] rfl rfl rfl rfl (by decide) mw_233 mw_234 mw_19 mw_235 (by decide +kernel) ⟨Nat.le_of_ble_eq_true rfl, Nat.le_of_ble_eq_true rfl⟩ ⟨rfl, rfl⟩ rfl hl.1 (Nat.le_of_ble_eq_true rfl) rfl dX9_paste_1 ⟨Nat.zero_le _, Nat.zero_le _⟩ (fun r f1 H locs er hP hD hS => ?_)
  have hP : va_P (dC, dI) vwCl [((g 0), .inr (9, oM g 0 0 0 0 0 0 (-1))), ((g 57), .inl ((a 57), 4, .inl nF))] H := hP
  have hD : va_D A [((g 0), .inr (9, oM g 0 0 0 0 0 0 (-1))), ((g 57), .inl ((a 57), 4, .inl nF))] := hD
  by_cases hc : 0 ≤ p0.toInt ∧ p0.toInt ≤ 3
  · have er : r = 1 := er.trans (if_pos hc)
    subst er
    refine lv_if_eq (tgt := 14) hx hb dX9_paste_4 (by decide) (fun c2 => ?_) (fun c2 => ?_)
    · exact absurd c2 (by decide)
    · refine lv_iload_n hx hb dX9_paste_7 rfl (lv_at hl 3 rfl) ?_
      refine c_Si (As := [.int p2]) (rest := []) (wr := [((g 0), .inr (9, oM g 0 0 0 0 0 0 (-1))), ((g 57), .inl ((a 57), 4, .inl nF))]) (n := 1) ⟨hx, hb, hml, hown, hT⟩ (k_X9_isSlot l dC dI g a p2) hK hP hD hS hA [] rfl [] [0, 1] rfl rfl rfl rfl (by decide) mw_233 mw_234 mw_19 mw_235 (by decide +kernel) ⟨Nat.le_of_ble_eq_true rfl, Nat.le_of_ble_eq_true rfl⟩ ⟨rfl, rfl⟩ rfl hl.1 (Nat.le_of_ble_eq_true rfl) rfl dX9_paste_8 ⟨Nat.zero_le _, Nat.zero_le _⟩ (fun r f3 H locs er hP hD hS => ?_)
      have hP : va_P (dC, dI) vwCl [((g 0), .inr (9, oM g 0 0 0 0 0 0 (-1))), ((g 57), .inl ((a 57), 4, .inl nF))] H := hP
      have hD : va_D A [((g 0), .inr (9, oM g 0 0 0 0 0 0 (-1))), ((g 57), .inl ((a 57), 4, .inl nF))] := hD
      by_cases hc : 0 ≤ p2.toInt ∧ p2.toInt ≤ 3
      · have er : r = 1 := er.trans (if_pos hc)
        subst er
        refine lv_if_ne (tgt := 17) hx hb dX9_paste_11 (by decide) (fun c4 => ?_) (fun c4 => ?_)
        · refine lv_aload_n hx hb dX9_paste_17 rfl (lv_at hl 0 rfl) ?_
          refine va_get (D := (dC, dI)) (ci := 9) (v := .ref (g 57)) (C := RX9) (T := TX9) (N := 61) hx hb hT inT9 hown hK hP 0 rfl rfl 57 (by decide) (hT _ mw_276) (fun _ h9 => h9) rfl dX9_paste_18 ?_
          refine lv_iload_n hx hb dX9_paste_21 rfl (lv_at hl 1 rfl) ?_
          refine va_iald hx hb hK hP 1 0 rfl rfl (i_in (by omega) (by omega)) dX9_paste_22 ?_
          refine t_i (-1) (nF_at (by omega) (by omega)) ?_
          refine lv_iconst (v := (-1)) hx hb dX9_paste_23 (by decide) ?_
          refine lv_icmp_eq (tgt := 37) hx hb dX9_paste_24 (by decide) (fun c5 => ?_) (fun c5 => ?_)
          · refine lv_bipush (v := (-6)) hx hb dX9_paste_37 (by decide) ?_
            exact e_i hx hb hr hlocks hP hD hS (fun _ => 0) [] rfl rfl (by unfold s_paste; (repeat' split) <;> first | rfl | omega) dX9_paste_39
          · exact absurd c5 (by decide)
        · exact absurd c4 (by decide)
      · have er : r = 0 := er.trans (if_neg hc)
        subst er
        refine lv_if_ne (tgt := 17) hx hb dX9_paste_11 (by decide) (fun c6 => ?_) (fun c6 => ?_)
        · exact absurd c6 (by decide)
        · refine lv_bipush (v := (-2)) hx hb dX9_paste_14 (by decide) ?_
          exact e_i hx hb hr hlocks hP hD hS (fun _ => 0) [] rfl rfl (by unfold s_paste; (repeat' split) <;> first | rfl | omega) dX9_paste_16
  · have er : r = 0 := er.trans (if_neg hc)
    subst er
    refine lv_if_eq (tgt := 14) hx hb dX9_paste_4 (by decide) (fun c7 => ?_) (fun c7 => ?_)
    · refine lv_bipush (v := (-2)) hx hb dX9_paste_14 (by decide) ?_
      exact e_i hx hb hr hlocks hP hD hS (fun _ => 0) [] rfl rfl (by unfold s_paste; (repeat' split) <;> first | rfl | omega) dX9_paste_16
    · exact absurd c7 (by decide)
