set_option maxRecDepth 100000 in
theorem k_X9_in (l : Launch) (dC : Nat → ClassId) (dI : Nat → Nat → Nat) (g : Nat → Nat) (a : Nat → ClassId) (p0 p1 p2 : Int64) (v0 v1 v2 : Int) (h0 : p0.toInt = v0) (h1 : p1.toInt = v1) (h2 : p2.toInt = v2) : MI l dC dI yX9_in (Cond.code yX9_in cX9_in 6 (some .boolean)) ({ frames := 0, cells := 0, slots := 0, locals := 0 }) [.long p0, .long p1, .long p2] [] [] (fun r : Int32 => r = if v1 ≤ v0 ∧ v0 ≤ v2 then 1 else 0) (fun f => []) := by
  refine m_of (Qc := fun A => QI dC dI A (fun r : Int32 => r = if v1 ≤ v0 ∧ v0 ≤ v2 then 1 else 0) (fun f => [])) (lv := [(0, .long p0), (2, .long p1), (4, .long p2)]) (by decide) (Nat.le_of_ble_eq_true rfl) rfl ?_
  intro p e s m below meth c A ls hx hb hr hml hT hown hlocks hname hP hK hD hS hA hl
  refine lv_lload_n hx hb dX9_in_0 rfl (lv_at hl 0 rfl) ?_
  refine lv_lload_n hx hb dX9_in_1 rfl (lv_at hl 1 rfl) ?_
  refine W.lcmp hx hb dX9_in_2 ?_
  refine lv_if_lt (tgt := 17) hx hb dX9_in_3 (by decide) (fun c1 => ?_) (fun c1 => ?_)
  · have c1 := l_clt c1
    refine lv_iconst (v := 0) hx hb dX9_in_17 (by decide) ?_
    exact e_z hx hb hr hlocks hP hD hS (fun _ => 0) [] rfl rfl (if_neg (by omega)).symm rfl dX9_in_18
  · have c1 := l_cnlt c1
    refine lv_lload_n hx hb dX9_in_6 rfl (lv_at hl 0 rfl) ?_
    refine lv_lload hx hb dX9_in_7 (lv_at hl 2 rfl) ?_
    refine W.lcmp hx hb dX9_in_9 ?_
    refine lv_if_gt (tgt := 17) hx hb dX9_in_10 (by decide) (fun c2 => ?_) (fun c2 => ?_)
    · have c2 := l_cgt c2
      refine lv_iconst (v := 0) hx hb dX9_in_17 (by decide) ?_
      exact e_z hx hb hr hlocks hP hD hS (fun _ => 0) [] rfl rfl (if_neg (by omega)).symm rfl dX9_in_18
    · have c2 := l_cngt c2
      refine lv_iconst (v := 1) hx hb dX9_in_13 (by decide) ?_
      refine lv_goto (tgt := 18) hx hb dX9_in_14 (by decide) ?_
      exact e_z hx hb hr hlocks hP hD hS (fun _ => 0) [] rfl rfl (if_pos (by omega)).symm rfl dX9_in_18
set_option maxRecDepth 100000 in
set_option maxHeartbeats 4000000 in
theorem k_X7_hasRoom (l : Launch) (dC : Nat → ClassId) (dI : Nat → Nat → Nat) (g : Nat → Nat) (a : Nat → ClassId)   : MI l dC dI yX7_hasRoom (Cond.code yX7_hasRoom cX7_hasRoom 2 (some .boolean)) ({ frames := 0, cells := 0, slots := 0, locals := 0 }) [.ref (g 2), .int 20] [] [((g 2), .inr (7, [.ref (g 3), .int 0]))] (fun r : Int32 => r = 1) (fun f => [((g 2), .inr (7, [.ref (g 3), .int 0]))]) := by
  refine m_of (Qc := fun A => QI dC dI A (fun r : Int32 => r = 1) (fun f => [((g 2), .inr (7, [.ref (g 3), .int 0]))])) (lv := [(0, .ref (g 2)), (1, .int 20)]) (by decide) (Nat.le_of_ble_eq_true rfl) rfl ?_
  intro p e s m below meth c A ls hx hb hr hml hT hown hlocks hname hP hK hD hS hA hl
  have hown : s.vm.findClass RX7 = some m.cls := hown
  refine lv_aload_n hx hb dX7_hasRoom_0 rfl (lv_at hl 0 rfl) ?_
  refine va_get (D := (dC, dI)) (ci := 7) (v := .int 0) (C := RX7) (T := TX7) (N := 2) hx hb hT inT7 hown hK hP 0 rfl rfl 1 (by decide) (hT _ mw_1) (fun _ h9 => h9) rfl dX7_hasRoom_1 ?_
  refine lv_iload_n hx hb dX7_hasRoom_4 rfl (lv_at hl 1 rfl) ?_
  refine lv_iadd hx hb dX7_hasRoom_5 ?_
  refine t_i 20 (by decide) ?_
  refine lv_sipush (v := 500) hx hb dX7_hasRoom_6 (by decide) ?_
  refine lv_icmp_gt (tgt := 16) hx hb dX7_hasRoom_9 (by decide) (fun c1 => ?_) (fun c1 => ?_)
  · exact absurd c1 (by decide)
  · refine lv_iconst (v := 1) hx hb dX7_hasRoom_12 (by decide) ?_
    refine lv_goto (tgt := 17) hx hb dX7_hasRoom_13 (by decide) ?_
    exact e_z hx hb hr hlocks hP hD hS (fun _ => 0) [0] rfl rfl rfl rfl dX7_hasRoom_17
set_option maxRecDepth 100000 in
set_option maxHeartbeats 4000000 in
theorem k_X7_hasRoom_2 (l : Launch) (dC : Nat → ClassId) (dI : Nat → Nat → Nat) (g : Nat → Nat) (a : Nat → ClassId)   : MI l dC dI yX7_hasRoom (Cond.code yX7_hasRoom cX7_hasRoom 2 (some .boolean)) ({ frames := 0, cells := 0, slots := 0, locals := 0 }) [.ref (g 2), .int 4] [] [((g 2), .inr (7, [.ref (g 3), .int 0]))] (fun r : Int32 => r = 1) (fun f => [((g 2), .inr (7, [.ref (g 3), .int 0]))]) := by
  refine m_of (Qc := fun A => QI dC dI A (fun r : Int32 => r = 1) (fun f => [((g 2), .inr (7, [.ref (g 3), .int 0]))])) (lv := [(0, .ref (g 2)), (1, .int 4)]) (by decide) (Nat.le_of_ble_eq_true rfl) rfl ?_
  intro p e s m below meth c A ls hx hb hr hml hT hown hlocks hname hP hK hD hS hA hl
  have hown : s.vm.findClass RX7 = some m.cls := hown
  refine lv_aload_n hx hb dX7_hasRoom_0 rfl (lv_at hl 0 rfl) ?_
  refine va_get (D := (dC, dI)) (ci := 7) (v := .int 0) (C := RX7) (T := TX7) (N := 2) hx hb hT inT7 hown hK hP 0 rfl rfl 1 (by decide) (hT _ mw_1) (fun _ h9 => h9) rfl dX7_hasRoom_1 ?_
  refine lv_iload_n hx hb dX7_hasRoom_4 rfl (lv_at hl 1 rfl) ?_
  refine lv_iadd hx hb dX7_hasRoom_5 ?_
  refine t_i 4 (by decide) ?_
  refine lv_sipush (v := 500) hx hb dX7_hasRoom_6 (by decide) ?_
  refine lv_icmp_gt (tgt := 16) hx hb dX7_hasRoom_9 (by decide) (fun c1 => ?_) (fun c1 => ?_)
  · exact absurd c1 (by decide)
  · refine lv_iconst (v := 1) hx hb dX7_hasRoom_12 (by decide) ?_
    refine lv_goto (tgt := 17) hx hb dX7_hasRoom_13 (by decide) ?_
    exact e_z hx hb hr hlocks hP hD hS (fun _ => 0) [0] rfl rfl rfl rfl dX7_hasRoom_17
set_option maxRecDepth 100000 in
set_option maxHeartbeats 4000000 in
theorem k_X7_putNumber (l : Launch) (dC : Nat → ClassId) (dI : Nat → Nat → Nat) (g : Nat → Nat) (a : Nat → ClassId) (p0 : Int32)  : MV l dC dI yX7_putNumber (Cond.code yX7_putNumber cX7_putNumber 3 none) ({ frames := 1, cells := 0, slots := 0, locals := 21 }) [.ref (g 2), .int p0] [((a 3), .byte)] [((g 2), .inr (7, [.ref (g 3), .int 0])), ((g 3), .inl ((a 3), 500, .inl (fun _ => 0)))] (fun f => [((g 2), .inr (7, [.ref (g 3), .int 4])), ((g 3), .inl ((a 3), 500, .inl f))]) := by
  refine m_of (Qc := fun A => QV dC dI A (fun f => [((g 2), .inr (7, [.ref (g 3), .int 4])), ((g 3), .inl ((a 3), 500, .inl f))])) (lv := [(0, .ref (g 2)), (1, .int p0)]) (by decide) (Nat.le_of_ble_eq_true rfl) rfl ?_
  intro p e s m below meth c A ls hx hb hr hml hT hown hlocks hname hP hK hD hS hA hl
  have hown : s.vm.findClass RX7 = some m.cls := hown
  refine lv_aload_n hx hb dX7_putNumber_0 rfl (lv_at hl 0 rfl) ?_
  refine lv_iconst (v := 4) hx hb dX7_putNumber_1 (by decide) ?_
  refine c_Vi (C := RX7) (As := [.int 4]) (rest := []) (wr := [((g 3), .inl ((a 3), 500, .inl (fun _ => 0)))]) (n := 1) ⟨hx, hb, hml, hown, hT⟩ (k_X7_hasRoom_2 l dC dI g a ) hK hP hD hS hA [] rfl [0] [1] rfl rfl rfl rfl (by decide) rfl rfl mw_7 mw_3 mw_4 mw_5 mw_6 (by decide +kernel) ⟨Nat.le_of_ble_eq_true rfl, Nat.le_of_ble_eq_true rfl⟩ ⟨rfl, rfl⟩ rfl hl.1 (Nat.le_of_ble_eq_true rfl) rfl dX7_putNumber_2 ⟨Nat.zero_le _, Nat.zero_le _⟩ (fun r f1 H locs er hP hD hS => ?_)
  have hP : va_P (dC, dI) vwCl [((g 3), .inl ((a 3), 500, .inl (fun _ => 0))), ((g 2), .inr (7, [.ref (g 3), .int 0]))] H := hP
  have hD : va_D A [((g 3), .inl ((a 3), 500, .inl (fun _ => 0))), ((g 2), .inr (7, [.ref (g 3), .int 0]))] := hD
  have er : r = 1 := er
  subst er
  refine lv_if_ne (tgt := 9) hx hb dX7_putNumber_5 (by decide) (fun c2 => ?_) (fun c2 => ?_)
  · refine lv_bipush (v := 24) hx hb dX7_putNumber_9 (by decide) ?_
    refine lv_istore_n (lv' := [(2, .int 24), (0, .ref (g 2)), (1, .int p0)]) hx hb dX7_putNumber_11 rfl hl (by decide) rfl (fun ls hl => ?_)
    refine lv_iload_n hx hb dX7_putNumber_12 rfl (lv_at hl 0 rfl) ?_
    refine lv_if_lt (tgt := 45) hx hb dX7_putNumber_13 (by decide) (fun c3 => ?_) (fun c3 => ?_)
    · exact absurd c3 (by decide)
    · refine lv_aload_n hx hb dX7_putNumber_16 rfl (lv_at hl 1 rfl) ?_
      refine va_get (D := (dC, dI)) (ci := 7) (v := .ref (g 3)) (C := RX7) (T := TX7) (N := 2) hx hb hT inT7 hown hK hP 1 rfl rfl 0 (by decide) (hT _ mw_8) (fun _ h9 => h9) rfl dX7_putNumber_17 ?_
      refine lv_aload_n hx hb dX7_putNumber_20 rfl (lv_at hl 1 rfl) ?_
      refine va_get (D := (dC, dI)) (ci := 7) (v := .int 0) (C := RX7) (T := TX7) (N := 2) hx hb hT inT7 hown hK hP 1 rfl rfl 1 (by decide) (hT _ mw_1) (fun _ h9 => h9) rfl dX7_putNumber_21 ?_
      refine lv_iload_n hx hb dX7_putNumber_24 rfl (lv_at hl 2 rfl) ?_
      refine lv_iload_n hx hb dX7_putNumber_25 rfl (lv_at hl 0 rfl) ?_
      refine lv_ishr hx hb dX7_putNumber_26 ?_
      refine lv_topi (fun z4 _ => ?_)
      refine lv_i2b hx hb dX7_putNumber_27 rfl ?_
      refine lv_topi (fun z5 _ => ?_)
      refine va_bast hx hb hK hP hD hS 0 0 rfl rfl (by unfold vp_in; decide) dX7_putNumber_28 (fun H locs hP hD hS => ?_)
      have hP : va_P (dC, dI) vwCl [((g 3), .inl ((a 3), 500, .inl (upd (fun _ => 0) (0 : Int32).toNatClampNeg (vp_nar .byte z5)))), ((g 2), .inr (7, [.ref (g 3), .int 0]))] H := hP
      have hD : va_D A [((g 3), .inl ((a 3), 500, .inl (upd (fun _ => 0) (0 : Int32).toNatClampNeg (vp_nar .byte z5)))), ((g 2), .inr (7, [.ref (g 3), .int 0]))] := hD
      generalize (upd (fun _ => 0) (0 : Int32).toNatClampNeg (vp_nar .byte z5)) = f6 at hP hD
      refine lv_aload_n hx hb dX7_putNumber_29 rfl (lv_at hl 1 rfl) ?_
      refine lv_dup hx hb dX7_putNumber_30 rfl ?_
      refine va_get (D := (dC, dI)) (ci := 7) (v := .int 0) (C := RX7) (T := TX7) (N := 2) hx hb hT inT7 hown hK hP 1 rfl rfl 1 (by decide) (hT _ mw_1) (fun _ h9 => h9) rfl dX7_putNumber_31 ?_
      refine lv_iconst (v := 1) hx hb dX7_putNumber_34 (by decide) ?_
      refine lv_iadd hx hb dX7_putNumber_35 ?_
      refine t_i 1 (by decide) ?_
      refine va_put (D := (dC, dI)) (ci := 7) (v := .int 1) (ty := .int) (C := RX7) (T := TX7) (N := 2) hx hb hT inT7 tyX7 tyX7_ok nmX7 hown hK hP hD hS 1 rfl rfl 1 (by decide) (hT _ mw_1) (fun _ h9 => h9) rfl (by decide +kernel) rfl rfl (Nat.le_of_ble_eq_true rfl) dX7_putNumber_36 (fun H locs hP hD hS => ?_)
      have hP : va_P (dC, dI) vwCl [((g 3), .inl ((a 3), 500, .inl f6)), ((g 2), .inr (7, [.ref (g 3), .int 1]))] H := hP
      have hD : va_D A [((g 3), .inl ((a 3), 500, .inl f6)), ((g 2), .inr (7, [.ref (g 3), .int 1]))] := hD
      refine lv_iinc (v := 16) (lv' := [(2, .int 16), (0, .ref (g 2)), (1, .int p0)]) hx hb dX7_putNumber_39 hl (k := 0) rfl (by decide) (by decide) rfl (fun ls hl => ?_)
      refine lv_goto (tgt := 12) hx hb dX7_putNumber_42 (by decide) ?_
      refine lv_iload_n hx hb dX7_putNumber_12 rfl (lv_at hl 0 rfl) ?_
      refine lv_if_lt (tgt := 45) hx hb dX7_putNumber_13 (by decide) (fun c7 => ?_) (fun c7 => ?_)
      · exact absurd c7 (by decide)
      · refine lv_aload_n hx hb dX7_putNumber_16 rfl (lv_at hl 1 rfl) ?_
        refine va_get (D := (dC, dI)) (ci := 7) (v := .ref (g 3)) (C := RX7) (T := TX7) (N := 2) hx hb hT inT7 hown hK hP 1 rfl rfl 0 (by decide) (hT _ mw_8) (fun _ h9 => h9) rfl dX7_putNumber_17 ?_
        refine lv_aload_n hx hb dX7_putNumber_20 rfl (lv_at hl 1 rfl) ?_
        refine va_get (D := (dC, dI)) (ci := 7) (v := .int 1) (C := RX7) (T := TX7) (N := 2) hx hb hT inT7 hown hK hP 1 rfl rfl 1 (by decide) (hT _ mw_1) (fun _ h9 => h9) rfl dX7_putNumber_21 ?_
        refine lv_iload_n hx hb dX7_putNumber_24 rfl (lv_at hl 2 rfl) ?_
        refine lv_iload_n hx hb dX7_putNumber_25 rfl (lv_at hl 0 rfl) ?_
        refine lv_ishr hx hb dX7_putNumber_26 ?_
        refine lv_topi (fun z8 _ => ?_)
        refine lv_i2b hx hb dX7_putNumber_27 rfl ?_
        refine lv_topi (fun z9 _ => ?_)
        refine va_bast hx hb hK hP hD hS 0 0 rfl rfl (by unfold vp_in; decide) dX7_putNumber_28 (fun H locs hP hD hS => ?_)
        have hP : va_P (dC, dI) vwCl [((g 3), .inl ((a 3), 500, .inl (upd f6 (1 : Int32).toNatClampNeg (vp_nar .byte z9)))), ((g 2), .inr (7, [.ref (g 3), .int 1]))] H := hP
        have hD : va_D A [((g 3), .inl ((a 3), 500, .inl (upd f6 (1 : Int32).toNatClampNeg (vp_nar .byte z9)))), ((g 2), .inr (7, [.ref (g 3), .int 1]))] := hD
        generalize (upd f6 (1 : Int32).toNatClampNeg (vp_nar .byte z9)) = f10 at hP hD
        refine lv_aload_n hx hb dX7_putNumber_29 rfl (lv_at hl 1 rfl) ?_
        refine lv_dup hx hb dX7_putNumber_30 rfl ?_
        refine va_get (D := (dC, dI)) (ci := 7) (v := .int 1) (C := RX7) (T := TX7) (N := 2) hx hb hT inT7 hown hK hP 1 rfl rfl 1 (by decide) (hT _ mw_1) (fun _ h9 => h9) rfl dX7_putNumber_31 ?_
        refine lv_iconst (v := 1) hx hb dX7_putNumber_34 (by decide) ?_
        refine lv_iadd hx hb dX7_putNumber_35 ?_
        refine t_i 2 (by decide) ?_
        refine va_put (D := (dC, dI)) (ci := 7) (v := .int 2) (ty := .int) (C := RX7) (T := TX7) (N := 2) hx hb hT inT7 tyX7 tyX7_ok nmX7 hown hK hP hD hS 1 rfl rfl 1 (by decide) (hT _ mw_1) (fun _ h9 => h9) rfl (by decide +kernel) rfl rfl (Nat.le_of_ble_eq_true rfl) dX7_putNumber_36 (fun H locs hP hD hS => ?_)
        have hP : va_P (dC, dI) vwCl [((g 3), .inl ((a 3), 500, .inl f10)), ((g 2), .inr (7, [.ref (g 3), .int 2]))] H := hP
        have hD : va_D A [((g 3), .inl ((a 3), 500, .inl f10)), ((g 2), .inr (7, [.ref (g 3), .int 2]))] := hD
        refine lv_iinc (v := 8) (lv' := [(2, .int 8), (0, .ref (g 2)), (1, .int p0)]) hx hb dX7_putNumber_39 hl (k := 0) rfl (by decide) (by decide) rfl (fun ls hl => ?_)
        refine lv_goto (tgt := 12) hx hb dX7_putNumber_42 (by decide) ?_
        refine lv_iload_n hx hb dX7_putNumber_12 rfl (lv_at hl 0 rfl) ?_
        refine lv_if_lt (tgt := 45) hx hb dX7_putNumber_13 (by decide) (fun c11 => ?_) (fun c11 => ?_)
        · exact absurd c11 (by decide)
        · refine lv_aload_n hx hb dX7_putNumber_16 rfl (lv_at hl 1 rfl) ?_
          refine va_get (D := (dC, dI)) (ci := 7) (v := .ref (g 3)) (C := RX7) (T := TX7) (N := 2) hx hb hT inT7 hown hK hP 1 rfl rfl 0 (by decide) (hT _ mw_8) (fun _ h9 => h9) rfl dX7_putNumber_17 ?_
          refine lv_aload_n hx hb dX7_putNumber_20 rfl (lv_at hl 1 rfl) ?_
          refine va_get (D := (dC, dI)) (ci := 7) (v := .int 2) (C := RX7) (T := TX7) (N := 2) hx hb hT inT7 hown hK hP 1 rfl rfl 1 (by decide) (hT _ mw_1) (fun _ h9 => h9) rfl dX7_putNumber_21 ?_
          refine lv_iload_n hx hb dX7_putNumber_24 rfl (lv_at hl 2 rfl) ?_
          refine lv_iload_n hx hb dX7_putNumber_25 rfl (lv_at hl 0 rfl) ?_
          refine lv_ishr hx hb dX7_putNumber_26 ?_
          refine lv_topi (fun z12 _ => ?_)
          refine lv_i2b hx hb dX7_putNumber_27 rfl ?_
          refine lv_topi (fun z13 _ => ?_)
          refine va_bast hx hb hK hP hD hS 0 0 rfl rfl (by unfold vp_in; decide) dX7_putNumber_28 (fun H locs hP hD hS => ?_)
          have hP : va_P (dC, dI) vwCl [((g 3), .inl ((a 3), 500, .inl (upd f10 (2 : Int32).toNatClampNeg (vp_nar .byte z13)))), ((g 2), .inr (7, [.ref (g 3), .int 2]))] H := hP
          have hD : va_D A [((g 3), .inl ((a 3), 500, .inl (upd f10 (2 : Int32).toNatClampNeg (vp_nar .byte z13)))), ((g 2), .inr (7, [.ref (g 3), .int 2]))] := hD
          generalize (upd f10 (2 : Int32).toNatClampNeg (vp_nar .byte z13)) = f14 at hP hD
          refine lv_aload_n hx hb dX7_putNumber_29 rfl (lv_at hl 1 rfl) ?_
          refine lv_dup hx hb dX7_putNumber_30 rfl ?_
          refine va_get (D := (dC, dI)) (ci := 7) (v := .int 2) (C := RX7) (T := TX7) (N := 2) hx hb hT inT7 hown hK hP 1 rfl rfl 1 (by decide) (hT _ mw_1) (fun _ h9 => h9) rfl dX7_putNumber_31 ?_
          refine lv_iconst (v := 1) hx hb dX7_putNumber_34 (by decide) ?_
          refine lv_iadd hx hb dX7_putNumber_35 ?_
          refine t_i 3 (by decide) ?_
          refine va_put (D := (dC, dI)) (ci := 7) (v := .int 3) (ty := .int) (C := RX7) (T := TX7) (N := 2) hx hb hT inT7 tyX7 tyX7_ok nmX7 hown hK hP hD hS 1 rfl rfl 1 (by decide) (hT _ mw_1) (fun _ h9 => h9) rfl (by decide +kernel) rfl rfl (Nat.le_of_ble_eq_true rfl) dX7_putNumber_36 (fun H locs hP hD hS => ?_)
          have hP : va_P (dC, dI) vwCl [((g 3), .inl ((a 3), 500, .inl f14)), ((g 2), .inr (7, [.ref (g 3), .int 3]))] H := hP
          have hD : va_D A [((g 3), .inl ((a 3), 500, .inl f14)), ((g 2), .inr (7, [.ref (g 3), .int 3]))] := hD
          refine lv_iinc (v := 0) (lv' := [(2, .int 0), (0, .ref (g 2)), (1, .int p0)]) hx hb dX7_putNumber_39 hl (k := 0) rfl (by decide) (by decide) rfl (fun ls hl => ?_)
          refine lv_goto (tgt := 12) hx hb dX7_putNumber_42 (by decide) ?_
          refine lv_iload_n hx hb dX7_putNumber_12 rfl (lv_at hl 0 rfl) ?_
          refine lv_if_lt (tgt := 45) hx hb dX7_putNumber_13 (by decide) (fun c15 => ?_) (fun c15 => ?_)
          · exact absurd c15 (by decide)
          · refine lv_aload_n hx hb dX7_putNumber_16 rfl (lv_at hl 1 rfl) ?_
            refine va_get (D := (dC, dI)) (ci := 7) (v := .ref (g 3)) (C := RX7) (T := TX7) (N := 2) hx hb hT inT7 hown hK hP 1 rfl rfl 0 (by decide) (hT _ mw_8) (fun _ h9 => h9) rfl dX7_putNumber_17 ?_
            refine lv_aload_n hx hb dX7_putNumber_20 rfl (lv_at hl 1 rfl) ?_
            refine va_get (D := (dC, dI)) (ci := 7) (v := .int 3) (C := RX7) (T := TX7) (N := 2) hx hb hT inT7 hown hK hP 1 rfl rfl 1 (by decide) (hT _ mw_1) (fun _ h9 => h9) rfl dX7_putNumber_21 ?_
            refine lv_iload_n hx hb dX7_putNumber_24 rfl (lv_at hl 2 rfl) ?_
            refine lv_iload_n hx hb dX7_putNumber_25 rfl (lv_at hl 0 rfl) ?_
            refine lv_ishr hx hb dX7_putNumber_26 ?_
            refine lv_topi (fun z16 _ => ?_)
            refine lv_i2b hx hb dX7_putNumber_27 rfl ?_
            refine lv_topi (fun z17 _ => ?_)
            refine va_bast hx hb hK hP hD hS 0 0 rfl rfl (by unfold vp_in; decide) dX7_putNumber_28 (fun H locs hP hD hS => ?_)
            have hP : va_P (dC, dI) vwCl [((g 3), .inl ((a 3), 500, .inl (upd f14 (3 : Int32).toNatClampNeg (vp_nar .byte z17)))), ((g 2), .inr (7, [.ref (g 3), .int 3]))] H := hP
            have hD : va_D A [((g 3), .inl ((a 3), 500, .inl (upd f14 (3 : Int32).toNatClampNeg (vp_nar .byte z17)))), ((g 2), .inr (7, [.ref (g 3), .int 3]))] := hD
            generalize (upd f14 (3 : Int32).toNatClampNeg (vp_nar .byte z17)) = f18 at hP hD
            refine lv_aload_n hx hb dX7_putNumber_29 rfl (lv_at hl 1 rfl) ?_
            refine lv_dup hx hb dX7_putNumber_30 rfl ?_
            refine va_get (D := (dC, dI)) (ci := 7) (v := .int 3) (C := RX7) (T := TX7) (N := 2) hx hb hT inT7 hown hK hP 1 rfl rfl 1 (by decide) (hT _ mw_1) (fun _ h9 => h9) rfl dX7_putNumber_31 ?_
            refine lv_iconst (v := 1) hx hb dX7_putNumber_34 (by decide) ?_
            refine lv_iadd hx hb dX7_putNumber_35 ?_
            refine t_i 4 (by decide) ?_
            refine va_put (D := (dC, dI)) (ci := 7) (v := .int 4) (ty := .int) (C := RX7) (T := TX7) (N := 2) hx hb hT inT7 tyX7 tyX7_ok nmX7 hown hK hP hD hS 1 rfl rfl 1 (by decide) (hT _ mw_1) (fun _ h9 => h9) rfl (by decide +kernel) rfl rfl (Nat.le_of_ble_eq_true rfl) dX7_putNumber_36 (fun H locs hP hD hS => ?_)
            have hP : va_P (dC, dI) vwCl [((g 3), .inl ((a 3), 500, .inl f18)), ((g 2), .inr (7, [.ref (g 3), .int 4]))] H := hP
            have hD : va_D A [((g 3), .inl ((a 3), 500, .inl f18)), ((g 2), .inr (7, [.ref (g 3), .int 4]))] := hD
            refine lv_iinc (v := (-8)) (lv' := [(2, .int (-8)), (0, .ref (g 2)), (1, .int p0)]) hx hb dX7_putNumber_39 hl (k := 0) rfl (by decide) (by decide) rfl (fun ls hl => ?_)
            refine lv_goto (tgt := 12) hx hb dX7_putNumber_42 (by decide) ?_
            refine lv_iload_n hx hb dX7_putNumber_12 rfl (lv_at hl 0 rfl) ?_
            refine lv_if_lt (tgt := 45) hx hb dX7_putNumber_13 (by decide) (fun c19 => ?_) (fun c19 => ?_)
            · exact e_v hx hb hr hlocks hP hD hS f18 [1, 0] rfl rfl dX7_putNumber_45
            · exact absurd c19 (by decide)
  · exact absurd c2 (by decide)
set_option maxRecDepth 100000 in
set_option maxHeartbeats 4000000 in
theorem k_X7_hasRoom_3 (l : Launch) (dC : Nat → ClassId) (dI : Nat → Nat → Nat) (g : Nat → Nat) (a : Nat → ClassId)   : MI l dC dI yX7_hasRoom (Cond.code yX7_hasRoom cX7_hasRoom 2 (some .boolean)) ({ frames := 0, cells := 0, slots := 0, locals := 0 }) [.ref (g 2), .int 4] [] [((g 2), .inr (7, [.ref (g 3), .int 4]))] (fun r : Int32 => r = 1) (fun f => [((g 2), .inr (7, [.ref (g 3), .int 4]))]) := by
  refine m_of (Qc := fun A => QI dC dI A (fun r : Int32 => r = 1) (fun f => [((g 2), .inr (7, [.ref (g 3), .int 4]))])) (lv := [(0, .ref (g 2)), (1, .int 4)]) (by decide) (Nat.le_of_ble_eq_true rfl) rfl ?_
  intro p e s m below meth c A ls hx hb hr hml hT hown hlocks hname hP hK hD hS hA hl
  have hown : s.vm.findClass RX7 = some m.cls := hown
  refine lv_aload_n hx hb dX7_hasRoom_0 rfl (lv_at hl 0 rfl) ?_
  refine va_get (D := (dC, dI)) (ci := 7) (v := .int 4) (C := RX7) (T := TX7) (N := 2) hx hb hT inT7 hown hK hP 0 rfl rfl 1 (by decide) (hT _ mw_1) (fun _ h9 => h9) rfl dX7_hasRoom_1 ?_
  refine lv_iload_n hx hb dX7_hasRoom_4 rfl (lv_at hl 1 rfl) ?_
  refine lv_iadd hx hb dX7_hasRoom_5 ?_
  refine t_i 8 (by decide) ?_
  refine lv_sipush (v := 500) hx hb dX7_hasRoom_6 (by decide) ?_
  refine lv_icmp_gt (tgt := 16) hx hb dX7_hasRoom_9 (by decide) (fun c1 => ?_) (fun c1 => ?_)
  · exact absurd c1 (by decide)
  · refine lv_iconst (v := 1) hx hb dX7_hasRoom_12 (by decide) ?_
    refine lv_goto (tgt := 17) hx hb dX7_hasRoom_13 (by decide) ?_
    exact e_z hx hb hr hlocks hP hD hS (fun _ => 0) [0] rfl rfl rfl rfl dX7_hasRoom_17
set_option maxRecDepth 100000 in
set_option maxHeartbeats 4000000 in
theorem k_X7_putNumber_2 (l : Launch) (dC : Nat → ClassId) (dI : Nat → Nat → Nat) (g : Nat → Nat) (a : Nat → ClassId) (fc : Nat → Int32) (p0 : Int32)  : MV l dC dI yX7_putNumber (Cond.code yX7_putNumber cX7_putNumber 3 none) ({ frames := 1, cells := 0, slots := 0, locals := 21 }) [.ref (g 2), .int p0] [((a 3), .byte)] [((g 2), .inr (7, [.ref (g 3), .int 4])), ((g 3), .inl ((a 3), 500, .inl fc))] (fun f => [((g 2), .inr (7, [.ref (g 3), .int 8])), ((g 3), .inl ((a 3), 500, .inl f))]) := by
  refine m_of (Qc := fun A => QV dC dI A (fun f => [((g 2), .inr (7, [.ref (g 3), .int 8])), ((g 3), .inl ((a 3), 500, .inl f))])) (lv := [(0, .ref (g 2)), (1, .int p0)]) (by decide) (Nat.le_of_ble_eq_true rfl) rfl ?_
  intro p e s m below meth c A ls hx hb hr hml hT hown hlocks hname hP hK hD hS hA hl
  have hown : s.vm.findClass RX7 = some m.cls := hown
  refine lv_aload_n hx hb dX7_putNumber_0 rfl (lv_at hl 0 rfl) ?_
  refine lv_iconst (v := 4) hx hb dX7_putNumber_1 (by decide) ?_
  refine c_Vi (C := RX7) (As := [.int 4]) (rest := []) (wr := [((g 3), .inl ((a 3), 500, .inl fc))]) (n := 1) ⟨hx, hb, hml, hown, hT⟩ (k_X7_hasRoom_3 l dC dI g a ) hK hP hD hS hA [] rfl [0] [1] rfl rfl rfl rfl (by decide) rfl rfl mw_7 mw_3 mw_4 mw_5 mw_6 (by decide +kernel) ⟨Nat.le_of_ble_eq_true rfl, Nat.le_of_ble_eq_true rfl⟩ ⟨rfl, rfl⟩ rfl hl.1 (Nat.le_of_ble_eq_true rfl) rfl dX7_putNumber_2 ⟨Nat.zero_le _, Nat.zero_le _⟩ (fun r f1 H locs er hP hD hS => ?_)
  have hP : va_P (dC, dI) vwCl [((g 3), .inl ((a 3), 500, .inl fc)), ((g 2), .inr (7, [.ref (g 3), .int 4]))] H := hP
  have hD : va_D A [((g 3), .inl ((a 3), 500, .inl fc)), ((g 2), .inr (7, [.ref (g 3), .int 4]))] := hD
  have er : r = 1 := er
  subst er
  refine lv_if_ne (tgt := 9) hx hb dX7_putNumber_5 (by decide) (fun c2 => ?_) (fun c2 => ?_)
  · refine lv_bipush (v := 24) hx hb dX7_putNumber_9 (by decide) ?_
    refine lv_istore_n (lv' := [(2, .int 24), (0, .ref (g 2)), (1, .int p0)]) hx hb dX7_putNumber_11 rfl hl (by decide) rfl (fun ls hl => ?_)
    refine lv_iload_n hx hb dX7_putNumber_12 rfl (lv_at hl 0 rfl) ?_
    refine lv_if_lt (tgt := 45) hx hb dX7_putNumber_13 (by decide) (fun c3 => ?_) (fun c3 => ?_)
    · exact absurd c3 (by decide)
    · refine lv_aload_n hx hb dX7_putNumber_16 rfl (lv_at hl 1 rfl) ?_
      refine va_get (D := (dC, dI)) (ci := 7) (v := .ref (g 3)) (C := RX7) (T := TX7) (N := 2) hx hb hT inT7 hown hK hP 1 rfl rfl 0 (by decide) (hT _ mw_8) (fun _ h9 => h9) rfl dX7_putNumber_17 ?_
      refine lv_aload_n hx hb dX7_putNumber_20 rfl (lv_at hl 1 rfl) ?_
      refine va_get (D := (dC, dI)) (ci := 7) (v := .int 4) (C := RX7) (T := TX7) (N := 2) hx hb hT inT7 hown hK hP 1 rfl rfl 1 (by decide) (hT _ mw_1) (fun _ h9 => h9) rfl dX7_putNumber_21 ?_
      refine lv_iload_n hx hb dX7_putNumber_24 rfl (lv_at hl 2 rfl) ?_
      refine lv_iload_n hx hb dX7_putNumber_25 rfl (lv_at hl 0 rfl) ?_
      refine lv_ishr hx hb dX7_putNumber_26 ?_
      refine lv_topi (fun z4 _ => ?_)
      refine lv_i2b hx hb dX7_putNumber_27 rfl ?_
      refine lv_topi (fun z5 _ => ?_)
      refine va_bast hx hb hK hP hD hS 0 0 rfl rfl (by unfold vp_in; decide) dX7_putNumber_28 (fun H locs hP hD hS => ?_)
      have hP : va_P (dC, dI) vwCl [((g 3), .inl ((a 3), 500, .inl (upd fc (4 : Int32).toNatClampNeg (vp_nar .byte z5)))), ((g 2), .inr (7, [.ref (g 3), .int 4]))] H := hP
      have hD : va_D A [((g 3), .inl ((a 3), 500, .inl (upd fc (4 : Int32).toNatClampNeg (vp_nar .byte z5)))), ((g 2), .inr (7, [.ref (g 3), .int 4]))] := hD
      generalize (upd fc (4 : Int32).toNatClampNeg (vp_nar .byte z5)) = f6 at hP hD
      refine lv_aload_n hx hb dX7_putNumber_29 rfl (lv_at hl 1 rfl) ?_
      refine lv_dup hx hb dX7_putNumber_30 rfl ?_
      refine va_get (D := (dC, dI)) (ci := 7) (v := .int 4) (C := RX7) (T := TX7) (N := 2) hx hb hT inT7 hown hK hP 1 rfl rfl 1 (by decide) (hT _ mw_1) (fun _ h9 => h9) rfl dX7_putNumber_31 ?_
      refine lv_iconst (v := 1) hx hb dX7_putNumber_34 (by decide) ?_
      refine lv_iadd hx hb dX7_putNumber_35 ?_
      refine t_i 5 (by decide) ?_
      refine va_put (D := (dC, dI)) (ci := 7) (v := .int 5) (ty := .int) (C := RX7) (T := TX7) (N := 2) hx hb hT inT7 tyX7 tyX7_ok nmX7 hown hK hP hD hS 1 rfl rfl 1 (by decide) (hT _ mw_1) (fun _ h9 => h9) rfl (by decide +kernel) rfl rfl (Nat.le_of_ble_eq_true rfl) dX7_putNumber_36 (fun H locs hP hD hS => ?_)
      have hP : va_P (dC, dI) vwCl [((g 3), .inl ((a 3), 500, .inl f6)), ((g 2), .inr (7, [.ref (g 3), .int 5]))] H := hP
      have hD : va_D A [((g 3), .inl ((a 3), 500, .inl f6)), ((g 2), .inr (7, [.ref (g 3), .int 5]))] := hD
      refine lv_iinc (v := 16) (lv' := [(2, .int 16), (0, .ref (g 2)), (1, .int p0)]) hx hb dX7_putNumber_39 hl (k := 0) rfl (by decide) (by decide) rfl (fun ls hl => ?_)
      refine lv_goto (tgt := 12) hx hb dX7_putNumber_42 (by decide) ?_
      refine lv_iload_n hx hb dX7_putNumber_12 rfl (lv_at hl 0 rfl) ?_
      refine lv_if_lt (tgt := 45) hx hb dX7_putNumber_13 (by decide) (fun c7 => ?_) (fun c7 => ?_)
      · exact absurd c7 (by decide)
      · refine lv_aload_n hx hb dX7_putNumber_16 rfl (lv_at hl 1 rfl) ?_
        refine va_get (D := (dC, dI)) (ci := 7) (v := .ref (g 3)) (C := RX7) (T := TX7) (N := 2) hx hb hT inT7 hown hK hP 1 rfl rfl 0 (by decide) (hT _ mw_8) (fun _ h9 => h9) rfl dX7_putNumber_17 ?_
        refine lv_aload_n hx hb dX7_putNumber_20 rfl (lv_at hl 1 rfl) ?_
        refine va_get (D := (dC, dI)) (ci := 7) (v := .int 5) (C := RX7) (T := TX7) (N := 2) hx hb hT inT7 hown hK hP 1 rfl rfl 1 (by decide) (hT _ mw_1) (fun _ h9 => h9) rfl dX7_putNumber_21 ?_
        refine lv_iload_n hx hb dX7_putNumber_24 rfl (lv_at hl 2 rfl) ?_
        refine lv_iload_n hx hb dX7_putNumber_25 rfl (lv_at hl 0 rfl) ?_
        refine lv_ishr hx hb dX7_putNumber_26 ?_
        refine lv_topi (fun z8 _ => ?_)
        refine lv_i2b hx hb dX7_putNumber_27 rfl ?_
        refine lv_topi (fun z9 _ => ?_)
        refine va_bast hx hb hK hP hD hS 0 0 rfl rfl (by unfold vp_in; decide) dX7_putNumber_28 (fun H locs hP hD hS => ?_)
        have hP : va_P (dC, dI) vwCl [((g 3), .inl ((a 3), 500, .inl (upd f6 (5 : Int32).toNatClampNeg (vp_nar .byte z9)))), ((g 2), .inr (7, [.ref (g 3), .int 5]))] H := hP
        have hD : va_D A [((g 3), .inl ((a 3), 500, .inl (upd f6 (5 : Int32).toNatClampNeg (vp_nar .byte z9)))), ((g 2), .inr (7, [.ref (g 3), .int 5]))] := hD
        generalize (upd f6 (5 : Int32).toNatClampNeg (vp_nar .byte z9)) = f10 at hP hD
        refine lv_aload_n hx hb dX7_putNumber_29 rfl (lv_at hl 1 rfl) ?_
        refine lv_dup hx hb dX7_putNumber_30 rfl ?_
        refine va_get (D := (dC, dI)) (ci := 7) (v := .int 5) (C := RX7) (T := TX7) (N := 2) hx hb hT inT7 hown hK hP 1 rfl rfl 1 (by decide) (hT _ mw_1) (fun _ h9 => h9) rfl dX7_putNumber_31 ?_
        refine lv_iconst (v := 1) hx hb dX7_putNumber_34 (by decide) ?_
        refine lv_iadd hx hb dX7_putNumber_35 ?_
        refine t_i 6 (by decide) ?_
        refine va_put (D := (dC, dI)) (ci := 7) (v := .int 6) (ty := .int) (C := RX7) (T := TX7) (N := 2) hx hb hT inT7 tyX7 tyX7_ok nmX7 hown hK hP hD hS 1 rfl rfl 1 (by decide) (hT _ mw_1) (fun _ h9 => h9) rfl (by decide +kernel) rfl rfl (Nat.le_of_ble_eq_true rfl) dX7_putNumber_36 (fun H locs hP hD hS => ?_)
        have hP : va_P (dC, dI) vwCl [((g 3), .inl ((a 3), 500, .inl f10)), ((g 2), .inr (7, [.ref (g 3), .int 6]))] H := hP
        have hD : va_D A [((g 3), .inl ((a 3), 500, .inl f10)), ((g 2), .inr (7, [.ref (g 3), .int 6]))] := hD
        refine lv_iinc (v := 8) (lv' := [(2, .int 8), (0, .ref (g 2)), (1, .int p0)]) hx hb dX7_putNumber_39 hl (k := 0) rfl (by decide) (by decide) rfl (fun ls hl => ?_)
        refine lv_goto (tgt := 12) hx hb dX7_putNumber_42 (by decide) ?_
        refine lv_iload_n hx hb dX7_putNumber_12 rfl (lv_at hl 0 rfl) ?_
        refine lv_if_lt (tgt := 45) hx hb dX7_putNumber_13 (by decide) (fun c11 => ?_) (fun c11 => ?_)
        · exact absurd c11 (by decide)
        · refine lv_aload_n hx hb dX7_putNumber_16 rfl (lv_at hl 1 rfl) ?_
          refine va_get (D := (dC, dI)) (ci := 7) (v := .ref (g 3)) (C := RX7) (T := TX7) (N := 2) hx hb hT inT7 hown hK hP 1 rfl rfl 0 (by decide) (hT _ mw_8) (fun _ h9 => h9) rfl dX7_putNumber_17 ?_
          refine lv_aload_n hx hb dX7_putNumber_20 rfl (lv_at hl 1 rfl) ?_
          refine va_get (D := (dC, dI)) (ci := 7) (v := .int 6) (C := RX7) (T := TX7) (N := 2) hx hb hT inT7 hown hK hP 1 rfl rfl 1 (by decide) (hT _ mw_1) (fun _ h9 => h9) rfl dX7_putNumber_21 ?_
          refine lv_iload_n hx hb dX7_putNumber_24 rfl (lv_at hl 2 rfl) ?_
          refine lv_iload_n hx hb dX7_putNumber_25 rfl (lv_at hl 0 rfl) ?_
          refine lv_ishr hx hb dX7_putNumber_26 ?_
          refine lv_topi (fun z12 _ => ?_)
          refine lv_i2b hx hb dX7_putNumber_27 rfl ?_
          refine lv_topi (fun z13 _ => ?_)
          refine va_bast hx hb hK hP hD hS 0 0 rfl rfl (by unfold vp_in; decide) dX7_putNumber_28 (fun H locs hP hD hS => ?_)
          have hP : va_P (dC, dI) vwCl [((g 3), .inl ((a 3), 500, .inl (upd f10 (6 : Int32).toNatClampNeg (vp_nar .byte z13)))), ((g 2), .inr (7, [.ref (g 3), .int 6]))] H := hP
          have hD : va_D A [((g 3), .inl ((a 3), 500, .inl (upd f10 (6 : Int32).toNatClampNeg (vp_nar .byte z13)))), ((g 2), .inr (7, [.ref (g 3), .int 6]))] := hD
          generalize (upd f10 (6 : Int32).toNatClampNeg (vp_nar .byte z13)) = f14 at hP hD
          refine lv_aload_n hx hb dX7_putNumber_29 rfl (lv_at hl 1 rfl) ?_
          refine lv_dup hx hb dX7_putNumber_30 rfl ?_
          refine va_get (D := (dC, dI)) (ci := 7) (v := .int 6) (C := RX7) (T := TX7) (N := 2) hx hb hT inT7 hown hK hP 1 rfl rfl 1 (by decide) (hT _ mw_1) (fun _ h9 => h9) rfl dX7_putNumber_31 ?_
          refine lv_iconst (v := 1) hx hb dX7_putNumber_34 (by decide) ?_
          refine lv_iadd hx hb dX7_putNumber_35 ?_
          refine t_i 7 (by decide) ?_
          refine va_put (D := (dC, dI)) (ci := 7) (v := .int 7) (ty := .int) (C := RX7) (T := TX7) (N := 2) hx hb hT inT7 tyX7 tyX7_ok nmX7 hown hK hP hD hS 1 rfl rfl 1 (by decide) (hT _ mw_1) (fun _ h9 => h9) rfl (by decide +kernel) rfl rfl (Nat.le_of_ble_eq_true rfl) dX7_putNumber_36 (fun H locs hP hD hS => ?_)
          have hP : va_P (dC, dI) vwCl [((g 3), .inl ((a 3), 500, .inl f14)), ((g 2), .inr (7, [.ref (g 3), .int 7]))] H := hP
          have hD : va_D A [((g 3), .inl ((a 3), 500, .inl f14)), ((g 2), .inr (7, [.ref (g 3), .int 7]))] := hD
          refine lv_iinc (v := 0) (lv' := [(2, .int 0), (0, .ref (g 2)), (1, .int p0)]) hx hb dX7_putNumber_39 hl (k := 0) rfl (by decide) (by decide) rfl (fun ls hl => ?_)
          refine lv_goto (tgt := 12) hx hb dX7_putNumber_42 (by decide) ?_
          refine lv_iload_n hx hb dX7_putNumber_12 rfl (lv_at hl 0 rfl) ?_
          refine lv_if_lt (tgt := 45) hx hb dX7_putNumber_13 (by decide) (fun c15 => ?_) (fun c15 => ?_)
          · exact absurd c15 (by decide)
          · refine lv_aload_n hx hb dX7_putNumber_16 rfl (lv_at hl 1 rfl) ?_
            refine va_get (D := (dC, dI)) (ci := 7) (v := .ref (g 3)) (C := RX7) (T := TX7) (N := 2) hx hb hT inT7 hown hK hP 1 rfl rfl 0 (by decide) (hT _ mw_8) (fun _ h9 => h9) rfl dX7_putNumber_17 ?_
            refine lv_aload_n hx hb dX7_putNumber_20 rfl (lv_at hl 1 rfl) ?_
            refine va_get (D := (dC, dI)) (ci := 7) (v := .int 7) (C := RX7) (T := TX7) (N := 2) hx hb hT inT7 hown hK hP 1 rfl rfl 1 (by decide) (hT _ mw_1) (fun _ h9 => h9) rfl dX7_putNumber_21 ?_
            refine lv_iload_n hx hb dX7_putNumber_24 rfl (lv_at hl 2 rfl) ?_
            refine lv_iload_n hx hb dX7_putNumber_25 rfl (lv_at hl 0 rfl) ?_
            refine lv_ishr hx hb dX7_putNumber_26 ?_
            refine lv_topi (fun z16 _ => ?_)
            refine lv_i2b hx hb dX7_putNumber_27 rfl ?_
            refine lv_topi (fun z17 _ => ?_)
            refine va_bast hx hb hK hP hD hS 0 0 rfl rfl (by unfold vp_in; decide) dX7_putNumber_28 (fun H locs hP hD hS => ?_)
            have hP : va_P (dC, dI) vwCl [((g 3), .inl ((a 3), 500, .inl (upd f14 (7 : Int32).toNatClampNeg (vp_nar .byte z17)))), ((g 2), .inr (7, [.ref (g 3), .int 7]))] H := hP
            have hD : va_D A [((g 3), .inl ((a 3), 500, .inl (upd f14 (7 : Int32).toNatClampNeg (vp_nar .byte z17)))), ((g 2), .inr (7, [.ref (g 3), .int 7]))] := hD
            generalize (upd f14 (7 : Int32).toNatClampNeg (vp_nar .byte z17)) = f18 at hP hD
            refine lv_aload_n hx hb dX7_putNumber_29 rfl (lv_at hl 1 rfl) ?_
            refine lv_dup hx hb dX7_putNumber_30 rfl ?_
            refine va_get (D := (dC, dI)) (ci := 7) (v := .int 7) (C := RX7) (T := TX7) (N := 2) hx hb hT inT7 hown hK hP 1 rfl rfl 1 (by decide) (hT _ mw_1) (fun _ h9 => h9) rfl dX7_putNumber_31 ?_
            refine lv_iconst (v := 1) hx hb dX7_putNumber_34 (by decide) ?_
            refine lv_iadd hx hb dX7_putNumber_35 ?_
            refine t_i 8 (by decide) ?_
            refine va_put (D := (dC, dI)) (ci := 7) (v := .int 8) (ty := .int) (C := RX7) (T := TX7) (N := 2) hx hb hT inT7 tyX7 tyX7_ok nmX7 hown hK hP hD hS 1 rfl rfl 1 (by decide) (hT _ mw_1) (fun _ h9 => h9) rfl (by decide +kernel) rfl rfl (Nat.le_of_ble_eq_true rfl) dX7_putNumber_36 (fun H locs hP hD hS => ?_)
            have hP : va_P (dC, dI) vwCl [((g 3), .inl ((a 3), 500, .inl f18)), ((g 2), .inr (7, [.ref (g 3), .int 8]))] H := hP
            have hD : va_D A [((g 3), .inl ((a 3), 500, .inl f18)), ((g 2), .inr (7, [.ref (g 3), .int 8]))] := hD
            refine lv_iinc (v := (-8)) (lv' := [(2, .int (-8)), (0, .ref (g 2)), (1, .int p0)]) hx hb dX7_putNumber_39 hl (k := 0) rfl (by decide) (by decide) rfl (fun ls hl => ?_)
            refine lv_goto (tgt := 12) hx hb dX7_putNumber_42 (by decide) ?_
            refine lv_iload_n hx hb dX7_putNumber_12 rfl (lv_at hl 0 rfl) ?_
            refine lv_if_lt (tgt := 45) hx hb dX7_putNumber_13 (by decide) (fun c19 => ?_) (fun c19 => ?_)
            · exact e_v hx hb hr hlocks hP hD hS f18 [1, 0] rfl rfl dX7_putNumber_45
            · exact absurd c19 (by decide)
  · exact absurd c2 (by decide)
set_option maxRecDepth 100000 in
set_option maxHeartbeats 4000000 in
theorem k_X7_hasRoom_4 (l : Launch) (dC : Nat → ClassId) (dI : Nat → Nat → Nat) (g : Nat → Nat) (a : Nat → ClassId)   : MI l dC dI yX7_hasRoom (Cond.code yX7_hasRoom cX7_hasRoom 2 (some .boolean)) ({ frames := 0, cells := 0, slots := 0, locals := 0 }) [.ref (g 2), .int 4] [] [((g 2), .inr (7, [.ref (g 3), .int 8]))] (fun r : Int32 => r = 1) (fun f => [((g 2), .inr (7, [.ref (g 3), .int 8]))]) := by
  refine m_of (Qc := fun A => QI dC dI A (fun r : Int32 => r = 1) (fun f => [((g 2), .inr (7, [.ref (g 3), .int 8]))])) (lv := [(0, .ref (g 2)), (1, .int 4)]) (by decide) (Nat.le_of_ble_eq_true rfl) rfl ?_
  intro p e s m below meth c A ls hx hb hr hml hT hown hlocks hname hP hK hD hS hA hl
  have hown : s.vm.findClass RX7 = some m.cls := hown
  refine lv_aload_n hx hb dX7_hasRoom_0 rfl (lv_at hl 0 rfl) ?_
  refine va_get (D := (dC, dI)) (ci := 7) (v := .int 8) (C := RX7) (T := TX7) (N := 2) hx hb hT inT7 hown hK hP 0 rfl rfl 1 (by decide) (hT _ mw_1) (fun _ h9 => h9) rfl dX7_hasRoom_1 ?_
  refine lv_iload_n hx hb dX7_hasRoom_4 rfl (lv_at hl 1 rfl) ?_
  refine lv_iadd hx hb dX7_hasRoom_5 ?_
  refine t_i 12 (by decide) ?_
  refine lv_sipush (v := 500) hx hb dX7_hasRoom_6 (by decide) ?_
  refine lv_icmp_gt (tgt := 16) hx hb dX7_hasRoom_9 (by decide) (fun c1 => ?_) (fun c1 => ?_)
  · exact absurd c1 (by decide)
  · refine lv_iconst (v := 1) hx hb dX7_hasRoom_12 (by decide) ?_
    refine lv_goto (tgt := 17) hx hb dX7_hasRoom_13 (by decide) ?_
    exact e_z hx hb hr hlocks hP hD hS (fun _ => 0) [0] rfl rfl rfl rfl dX7_hasRoom_17
set_option maxRecDepth 100000 in
set_option maxHeartbeats 4000000 in
theorem k_X7_putNumber_3 (l : Launch) (dC : Nat → ClassId) (dI : Nat → Nat → Nat) (g : Nat → Nat) (a : Nat → ClassId) (fc : Nat → Int32) (p0 : Int32)  : MV l dC dI yX7_putNumber (Cond.code yX7_putNumber cX7_putNumber 3 none) ({ frames := 1, cells := 0, slots := 0, locals := 21 }) [.ref (g 2), .int p0] [((a 3), .byte)] [((g 2), .inr (7, [.ref (g 3), .int 8])), ((g 3), .inl ((a 3), 500, .inl fc))] (fun f => [((g 2), .inr (7, [.ref (g 3), .int 12])), ((g 3), .inl ((a 3), 500, .inl f))]) := by
  refine m_of (Qc := fun A => QV dC dI A (fun f => [((g 2), .inr (7, [.ref (g 3), .int 12])), ((g 3), .inl ((a 3), 500, .inl f))])) (lv := [(0, .ref (g 2)), (1, .int p0)]) (by decide) (Nat.le_of_ble_eq_true rfl) rfl ?_
  intro p e s m below meth c A ls hx hb hr hml hT hown hlocks hname hP hK hD hS hA hl
  have hown : s.vm.findClass RX7 = some m.cls := hown
  refine lv_aload_n hx hb dX7_putNumber_0 rfl (lv_at hl 0 rfl) ?_
  refine lv_iconst (v := 4) hx hb dX7_putNumber_1 (by decide) ?_
  refine c_Vi (C := RX7) (As := [.int 4]) (rest := []) (wr := [((g 3), .inl ((a 3), 500, .inl fc))]) (n := 1) ⟨hx, hb, hml, hown, hT⟩ (k_X7_hasRoom_4 l dC dI g a ) hK hP hD hS hA [] rfl [0] [1] rfl rfl rfl rfl (by decide) rfl rfl mw_7 mw_3 mw_4 mw_5 mw_6 (by decide +kernel) ⟨Nat.le_of_ble_eq_true rfl, Nat.le_of_ble_eq_true rfl⟩ ⟨rfl, rfl⟩ rfl hl.1 (Nat.le_of_ble_eq_true rfl) rfl dX7_putNumber_2 ⟨Nat.zero_le _, Nat.zero_le _⟩ (fun r f1 H locs er hP hD hS => ?_)
  have hP : va_P (dC, dI) vwCl [((g 3), .inl ((a 3), 500, .inl fc)), ((g 2), .inr (7, [.ref (g 3), .int 8]))] H := hP
  have hD : va_D A [((g 3), .inl ((a 3), 500, .inl fc)), ((g 2), .inr (7, [.ref (g 3), .int 8]))] := hD
  have er : r = 1 := er
  subst er
  refine lv_if_ne (tgt := 9) hx hb dX7_putNumber_5 (by decide) (fun c2 => ?_) (fun c2 => ?_)
  · refine lv_bipush (v := 24) hx hb dX7_putNumber_9 (by decide) ?_
    refine lv_istore_n (lv' := [(2, .int 24), (0, .ref (g 2)), (1, .int p0)]) hx hb dX7_putNumber_11 rfl hl (by decide) rfl (fun ls hl => ?_)
    refine lv_iload_n hx hb dX7_putNumber_12 rfl (lv_at hl 0 rfl) ?_
    refine lv_if_lt (tgt := 45) hx hb dX7_putNumber_13 (by decide) (fun c3 => ?_) (fun c3 => ?_)
    · exact absurd c3 (by decide)
    · refine lv_aload_n hx hb dX7_putNumber_16 rfl (lv_at hl 1 rfl) ?_
      refine va_get (D := (dC, dI)) (ci := 7) (v := .ref (g 3)) (C := RX7) (T := TX7) (N := 2) hx hb hT inT7 hown hK hP 1 rfl rfl 0 (by decide) (hT _ mw_8) (fun _ h9 => h9) rfl dX7_putNumber_17 ?_
      refine lv_aload_n hx hb dX7_putNumber_20 rfl (lv_at hl 1 rfl) ?_
      refine va_get (D := (dC, dI)) (ci := 7) (v := .int 8) (C := RX7) (T := TX7) (N := 2) hx hb hT inT7 hown hK hP 1 rfl rfl 1 (by decide) (hT _ mw_1) (fun _ h9 => h9) rfl dX7_putNumber_21 ?_
      refine lv_iload_n hx hb dX7_putNumber_24 rfl (lv_at hl 2 rfl) ?_
      refine lv_iload_n hx hb dX7_putNumber_25 rfl (lv_at hl 0 rfl) ?_
      refine lv_ishr hx hb dX7_putNumber_26 ?_
      refine lv_topi (fun z4 _ => ?_)
      refine lv_i2b hx hb dX7_putNumber_27 rfl ?_
      refine lv_topi (fun z5 _ => ?_)
      refine va_bast hx hb hK hP hD hS 0 0 rfl rfl (by unfold vp_in; decide) dX7_putNumber_28 (fun H locs hP hD hS => ?_)
      have hP : va_P (dC, dI) vwCl [((g 3), .inl ((a 3), 500, .inl (upd fc (8 : Int32).toNatClampNeg (vp_nar .byte z5)))), ((g 2), .inr (7, [.ref (g 3), .int 8]))] H := hP
      have hD : va_D A [((g 3), .inl ((a 3), 500, .inl (upd fc (8 : Int32).toNatClampNeg (vp_nar .byte z5)))), ((g 2), .inr (7, [.ref (g 3), .int 8]))] := hD
      generalize (upd fc (8 : Int32).toNatClampNeg (vp_nar .byte z5)) = f6 at hP hD
      refine lv_aload_n hx hb dX7_putNumber_29 rfl (lv_at hl 1 rfl) ?_
      refine lv_dup hx hb dX7_putNumber_30 rfl ?_
      refine va_get (D := (dC, dI)) (ci := 7) (v := .int 8) (C := RX7) (T := TX7) (N := 2) hx hb hT inT7 hown hK hP 1 rfl rfl 1 (by decide) (hT _ mw_1) (fun _ h9 => h9) rfl dX7_putNumber_31 ?_
      refine lv_iconst (v := 1) hx hb dX7_putNumber_34 (by decide) ?_
      refine lv_iadd hx hb dX7_putNumber_35 ?_
      refine t_i 9 (by decide) ?_
      refine va_put (D := (dC, dI)) (ci := 7) (v := .int 9) (ty := .int) (C := RX7) (T := TX7) (N := 2) hx hb hT inT7 tyX7 tyX7_ok nmX7 hown hK hP hD hS 1 rfl rfl 1 (by decide) (hT _ mw_1) (fun _ h9 => h9) rfl (by decide +kernel) rfl rfl (Nat.le_of_ble_eq_true rfl) dX7_putNumber_36 (fun H locs hP hD hS => ?_)
      have hP : va_P (dC, dI) vwCl [((g 3), .inl ((a 3), 500, .inl f6)), ((g 2), .inr (7, [.ref (g 3), .int 9]))] H := hP
      have hD : va_D A [((g 3), .inl ((a 3), 500, .inl f6)), ((g 2), .inr (7, [.ref (g 3), .int 9]))] := hD
      refine lv_iinc (v := 16) (lv' := [(2, .int 16), (0, .ref (g 2)), (1, .int p0)]) hx hb dX7_putNumber_39 hl (k := 0) rfl (by decide) (by decide) rfl (fun ls hl => ?_)
      refine lv_goto (tgt := 12) hx hb dX7_putNumber_42 (by decide) ?_
      refine lv_iload_n hx hb dX7_putNumber_12 rfl (lv_at hl 0 rfl) ?_
      refine lv_if_lt (tgt := 45) hx hb dX7_putNumber_13 (by decide) (fun c7 => ?_) (fun c7 => ?_)
      · exact absurd c7 (by decide)
      · refine lv_aload_n hx hb dX7_putNumber_16 rfl (lv_at hl 1 rfl) ?_
        refine va_get (D := (dC, dI)) (ci := 7) (v := .ref (g 3)) (C := RX7) (T := TX7) (N := 2) hx hb hT inT7 hown hK hP 1 rfl rfl 0 (by decide) (hT _ mw_8) (fun _ h9 => h9) rfl dX7_putNumber_17 ?_
        refine lv_aload_n hx hb dX7_putNumber_20 rfl (lv_at hl 1 rfl) ?_
        refine va_get (D := (dC, dI)) (ci := 7) (v := .int 9) (C := RX7) (T := TX7) (N := 2) hx hb hT inT7 hown hK hP 1 rfl rfl 1 (by decide) (hT _ mw_1) (fun _ h9 => h9) rfl dX7_putNumber_21 ?_
        refine lv_iload_n hx hb dX7_putNumber_24 rfl (lv_at hl 2 rfl) ?_
        refine lv_iload_n hx hb dX7_putNumber_25 rfl (lv_at hl 0 rfl) ?_
        refine lv_ishr hx hb dX7_putNumber_26 ?_
        refine lv_topi (fun z8 _ => ?_)
        refine lv_i2b hx hb dX7_putNumber_27 rfl ?_
        refine lv_topi (fun z9 _ => ?_)
        refine va_bast hx hb hK hP hD hS 0 0 rfl rfl (by unfold vp_in; decide) dX7_putNumber_28 (fun H locs hP hD hS => ?_)
        have hP : va_P (dC, dI) vwCl [((g 3), .inl ((a 3), 500, .inl (upd f6 (9 : Int32).toNatClampNeg (vp_nar .byte z9)))), ((g 2), .inr (7, [.ref (g 3), .int 9]))] H := hP
        have hD : va_D A [((g 3), .inl ((a 3), 500, .inl (upd f6 (9 : Int32).toNatClampNeg (vp_nar .byte z9)))), ((g 2), .inr (7, [.ref (g 3), .int 9]))] := hD
        generalize (upd f6 (9 : Int32).toNatClampNeg (vp_nar .byte z9)) = f10 at hP hD
        refine lv_aload_n hx hb dX7_putNumber_29 rfl (lv_at hl 1 rfl) ?_
        refine lv_dup hx hb dX7_putNumber_30 rfl ?_
        refine va_get (D := (dC, dI)) (ci := 7) (v := .int 9) (C := RX7) (T := TX7) (N := 2) hx hb hT inT7 hown hK hP 1 rfl rfl 1 (by decide) (hT _ mw_1) (fun _ h9 => h9) rfl dX7_putNumber_31 ?_
        refine lv_iconst (v := 1) hx hb dX7_putNumber_34 (by decide) ?_
        refine lv_iadd hx hb dX7_putNumber_35 ?_
        refine t_i 10 (by decide) ?_
        refine va_put (D := (dC, dI)) (ci := 7) (v := .int 10) (ty := .int) (C := RX7) (T := TX7) (N := 2) hx hb hT inT7 tyX7 tyX7_ok nmX7 hown hK hP hD hS 1 rfl rfl 1 (by decide) (hT _ mw_1) (fun _ h9 => h9) rfl (by decide +kernel) rfl rfl (Nat.le_of_ble_eq_true rfl) dX7_putNumber_36 (fun H locs hP hD hS => ?_)
        have hP : va_P (dC, dI) vwCl [((g 3), .inl ((a 3), 500, .inl f10)), ((g 2), .inr (7, [.ref (g 3), .int 10]))] H := hP
        have hD : va_D A [((g 3), .inl ((a 3), 500, .inl f10)), ((g 2), .inr (7, [.ref (g 3), .int 10]))] := hD
        refine lv_iinc (v := 8) (lv' := [(2, .int 8), (0, .ref (g 2)), (1, .int p0)]) hx hb dX7_putNumber_39 hl (k := 0) rfl (by decide) (by decide) rfl (fun ls hl => ?_)
        refine lv_goto (tgt := 12) hx hb dX7_putNumber_42 (by decide) ?_
        refine lv_iload_n hx hb dX7_putNumber_12 rfl (lv_at hl 0 rfl) ?_
        refine lv_if_lt (tgt := 45) hx hb dX7_putNumber_13 (by decide) (fun c11 => ?_) (fun c11 => ?_)
        · exact absurd c11 (by decide)
        · refine lv_aload_n hx hb dX7_putNumber_16 rfl (lv_at hl 1 rfl) ?_
          refine va_get (D := (dC, dI)) (ci := 7) (v := .ref (g 3)) (C := RX7) (T := TX7) (N := 2) hx hb hT inT7 hown hK hP 1 rfl rfl 0 (by decide) (hT _ mw_8) (fun _ h9 => h9) rfl dX7_putNumber_17 ?_
          refine lv_aload_n hx hb dX7_putNumber_20 rfl (lv_at hl 1 rfl) ?_
          refine va_get (D := (dC, dI)) (ci := 7) (v := .int 10) (C := RX7) (T := TX7) (N := 2) hx hb hT inT7 hown hK hP 1 rfl rfl 1 (by decide) (hT _ mw_1) (fun _ h9 => h9) rfl dX7_putNumber_21 ?_
          refine lv_iload_n hx hb dX7_putNumber_24 rfl (lv_at hl 2 rfl) ?_
          refine lv_iload_n hx hb dX7_putNumber_25 rfl (lv_at hl 0 rfl) ?_
          refine lv_ishr hx hb dX7_putNumber_26 ?_
          refine lv_topi (fun z12 _ => ?_)
          refine lv_i2b hx hb dX7_putNumber_27 rfl ?_
          refine lv_topi (fun z13 _ => ?_)
          refine va_bast hx hb hK hP hD hS 0 0 rfl rfl (by unfold vp_in; decide) dX7_putNumber_28 (fun H locs hP hD hS => ?_)
          have hP : va_P (dC, dI) vwCl [((g 3), .inl ((a 3), 500, .inl (upd f10 (10 : Int32).toNatClampNeg (vp_nar .byte z13)))), ((g 2), .inr (7, [.ref (g 3), .int 10]))] H := hP
          have hD : va_D A [((g 3), .inl ((a 3), 500, .inl (upd f10 (10 : Int32).toNatClampNeg (vp_nar .byte z13)))), ((g 2), .inr (7, [.ref (g 3), .int 10]))] := hD
          generalize (upd f10 (10 : Int32).toNatClampNeg (vp_nar .byte z13)) = f14 at hP hD
          refine lv_aload_n hx hb dX7_putNumber_29 rfl (lv_at hl 1 rfl) ?_
          refine lv_dup hx hb dX7_putNumber_30 rfl ?_
          refine va_get (D := (dC, dI)) (ci := 7) (v := .int 10) (C := RX7) (T := TX7) (N := 2) hx hb hT inT7 hown hK hP 1 rfl rfl 1 (by decide) (hT _ mw_1) (fun _ h9 => h9) rfl dX7_putNumber_31 ?_
          refine lv_iconst (v := 1) hx hb dX7_putNumber_34 (by decide) ?_
          refine lv_iadd hx hb dX7_putNumber_35 ?_
          refine t_i 11 (by decide) ?_
          refine va_put (D := (dC, dI)) (ci := 7) (v := .int 11) (ty := .int) (C := RX7) (T := TX7) (N := 2) hx hb hT inT7 tyX7 tyX7_ok nmX7 hown hK hP hD hS 1 rfl rfl 1 (by decide) (hT _ mw_1) (fun _ h9 => h9) rfl (by decide +kernel) rfl rfl (Nat.le_of_ble_eq_true rfl) dX7_putNumber_36 (fun H locs hP hD hS => ?_)
          have hP : va_P (dC, dI) vwCl [((g 3), .inl ((a 3), 500, .inl f14)), ((g 2), .inr (7, [.ref (g 3), .int 11]))] H := hP
          have hD : va_D A [((g 3), .inl ((a 3), 500, .inl f14)), ((g 2), .inr (7, [.ref (g 3), .int 11]))] := hD
          refine lv_iinc (v := 0) (lv' := [(2, .int 0), (0, .ref (g 2)), (1, .int p0)]) hx hb dX7_putNumber_39 hl (k := 0) rfl (by decide) (by decide) rfl (fun ls hl => ?_)
          refine lv_goto (tgt := 12) hx hb dX7_putNumber_42 (by decide) ?_
          refine lv_iload_n hx hb dX7_putNumber_12 rfl (lv_at hl 0 rfl) ?_
          refine lv_if_lt (tgt := 45) hx hb dX7_putNumber_13 (by decide) (fun c15 => ?_) (fun c15 => ?_)
          · exact absurd c15 (by decide)
          · refine lv_aload_n hx hb dX7_putNumber_16 rfl (lv_at hl 1 rfl) ?_
            refine va_get (D := (dC, dI)) (ci := 7) (v := .ref (g 3)) (C := RX7) (T := TX7) (N := 2) hx hb hT inT7 hown hK hP 1 rfl rfl 0 (by decide) (hT _ mw_8) (fun _ h9 => h9) rfl dX7_putNumber_17 ?_
            refine lv_aload_n hx hb dX7_putNumber_20 rfl (lv_at hl 1 rfl) ?_
            refine va_get (D := (dC, dI)) (ci := 7) (v := .int 11) (C := RX7) (T := TX7) (N := 2) hx hb hT inT7 hown hK hP 1 rfl rfl 1 (by decide) (hT _ mw_1) (fun _ h9 => h9) rfl dX7_putNumber_21 ?_
            refine lv_iload_n hx hb dX7_putNumber_24 rfl (lv_at hl 2 rfl) ?_
            refine lv_iload_n hx hb dX7_putNumber_25 rfl (lv_at hl 0 rfl) ?_
            refine lv_ishr hx hb dX7_putNumber_26 ?_
            refine lv_topi (fun z16 _ => ?_)
            refine lv_i2b hx hb dX7_putNumber_27 rfl ?_
            refine lv_topi (fun z17 _ => ?_)
            refine va_bast hx hb hK hP hD hS 0 0 rfl rfl (by unfold vp_in; decide) dX7_putNumber_28 (fun H locs hP hD hS => ?_)
            have hP : va_P (dC, dI) vwCl [((g 3), .inl ((a 3), 500, .inl (upd f14 (11 : Int32).toNatClampNeg (vp_nar .byte z17)))), ((g 2), .inr (7, [.ref (g 3), .int 11]))] H := hP
            have hD : va_D A [((g 3), .inl ((a 3), 500, .inl (upd f14 (11 : Int32).toNatClampNeg (vp_nar .byte z17)))), ((g 2), .inr (7, [.ref (g 3), .int 11]))] := hD
            generalize (upd f14 (11 : Int32).toNatClampNeg (vp_nar .byte z17)) = f18 at hP hD
            refine lv_aload_n hx hb dX7_putNumber_29 rfl (lv_at hl 1 rfl) ?_
            refine lv_dup hx hb dX7_putNumber_30 rfl ?_
            refine va_get (D := (dC, dI)) (ci := 7) (v := .int 11) (C := RX7) (T := TX7) (N := 2) hx hb hT inT7 hown hK hP 1 rfl rfl 1 (by decide) (hT _ mw_1) (fun _ h9 => h9) rfl dX7_putNumber_31 ?_
            refine lv_iconst (v := 1) hx hb dX7_putNumber_34 (by decide) ?_
            refine lv_iadd hx hb dX7_putNumber_35 ?_
            refine t_i 12 (by decide) ?_
            refine va_put (D := (dC, dI)) (ci := 7) (v := .int 12) (ty := .int) (C := RX7) (T := TX7) (N := 2) hx hb hT inT7 tyX7 tyX7_ok nmX7 hown hK hP hD hS 1 rfl rfl 1 (by decide) (hT _ mw_1) (fun _ h9 => h9) rfl (by decide +kernel) rfl rfl (Nat.le_of_ble_eq_true rfl) dX7_putNumber_36 (fun H locs hP hD hS => ?_)
            have hP : va_P (dC, dI) vwCl [((g 3), .inl ((a 3), 500, .inl f18)), ((g 2), .inr (7, [.ref (g 3), .int 12]))] H := hP
            have hD : va_D A [((g 3), .inl ((a 3), 500, .inl f18)), ((g 2), .inr (7, [.ref (g 3), .int 12]))] := hD
            refine lv_iinc (v := (-8)) (lv' := [(2, .int (-8)), (0, .ref (g 2)), (1, .int p0)]) hx hb dX7_putNumber_39 hl (k := 0) rfl (by decide) (by decide) rfl (fun ls hl => ?_)
            refine lv_goto (tgt := 12) hx hb dX7_putNumber_42 (by decide) ?_
            refine lv_iload_n hx hb dX7_putNumber_12 rfl (lv_at hl 0 rfl) ?_
            refine lv_if_lt (tgt := 45) hx hb dX7_putNumber_13 (by decide) (fun c19 => ?_) (fun c19 => ?_)
            · exact e_v hx hb hr hlocks hP hD hS f18 [1, 0] rfl rfl dX7_putNumber_45
            · exact absurd c19 (by decide)
  · exact absurd c2 (by decide)
set_option maxRecDepth 100000 in
set_option maxHeartbeats 4000000 in
theorem k_X7_hasRoom_5 (l : Launch) (dC : Nat → ClassId) (dI : Nat → Nat → Nat) (g : Nat → Nat) (a : Nat → ClassId)   : MI l dC dI yX7_hasRoom (Cond.code yX7_hasRoom cX7_hasRoom 2 (some .boolean)) ({ frames := 0, cells := 0, slots := 0, locals := 0 }) [.ref (g 2), .int 4] [] [((g 2), .inr (7, [.ref (g 3), .int 12]))] (fun r : Int32 => r = 1) (fun f => [((g 2), .inr (7, [.ref (g 3), .int 12]))]) := by
  refine m_of (Qc := fun A => QI dC dI A (fun r : Int32 => r = 1) (fun f => [((g 2), .inr (7, [.ref (g 3), .int 12]))])) (lv := [(0, .ref (g 2)), (1, .int 4)]) (by decide) (Nat.le_of_ble_eq_true rfl) rfl ?_
  intro p e s m below meth c A ls hx hb hr hml hT hown hlocks hname hP hK hD hS hA hl
  have hown : s.vm.findClass RX7 = some m.cls := hown
  refine lv_aload_n hx hb dX7_hasRoom_0 rfl (lv_at hl 0 rfl) ?_
  refine va_get (D := (dC, dI)) (ci := 7) (v := .int 12) (C := RX7) (T := TX7) (N := 2) hx hb hT inT7 hown hK hP 0 rfl rfl 1 (by decide) (hT _ mw_1) (fun _ h9 => h9) rfl dX7_hasRoom_1 ?_
  refine lv_iload_n hx hb dX7_hasRoom_4 rfl (lv_at hl 1 rfl) ?_
  refine lv_iadd hx hb dX7_hasRoom_5 ?_
  refine t_i 16 (by decide) ?_
  refine lv_sipush (v := 500) hx hb dX7_hasRoom_6 (by decide) ?_
  refine lv_icmp_gt (tgt := 16) hx hb dX7_hasRoom_9 (by decide) (fun c1 => ?_) (fun c1 => ?_)
  · exact absurd c1 (by decide)
  · refine lv_iconst (v := 1) hx hb dX7_hasRoom_12 (by decide) ?_
    refine lv_goto (tgt := 17) hx hb dX7_hasRoom_13 (by decide) ?_
    exact e_z hx hb hr hlocks hP hD hS (fun _ => 0) [0] rfl rfl rfl rfl dX7_hasRoom_17
set_option maxRecDepth 100000 in
set_option maxHeartbeats 4000000 in
theorem k_X7_putNumber_4 (l : Launch) (dC : Nat → ClassId) (dI : Nat → Nat → Nat) (g : Nat → Nat) (a : Nat → ClassId) (fc : Nat → Int32) (p0 : Int32)  : MV l dC dI yX7_putNumber (Cond.code yX7_putNumber cX7_putNumber 3 none) ({ frames := 1, cells := 0, slots := 0, locals := 21 }) [.ref (g 2), .int p0] [((a 3), .byte)] [((g 2), .inr (7, [.ref (g 3), .int 12])), ((g 3), .inl ((a 3), 500, .inl fc))] (fun f => [((g 2), .inr (7, [.ref (g 3), .int 16])), ((g 3), .inl ((a 3), 500, .inl f))]) := by
  refine m_of (Qc := fun A => QV dC dI A (fun f => [((g 2), .inr (7, [.ref (g 3), .int 16])), ((g 3), .inl ((a 3), 500, .inl f))])) (lv := [(0, .ref (g 2)), (1, .int p0)]) (by decide) (Nat.le_of_ble_eq_true rfl) rfl ?_
  intro p e s m below meth c A ls hx hb hr hml hT hown hlocks hname hP hK hD hS hA hl
  have hown : s.vm.findClass RX7 = some m.cls := hown
  refine lv_aload_n hx hb dX7_putNumber_0 rfl (lv_at hl 0 rfl) ?_
  refine lv_iconst (v := 4) hx hb dX7_putNumber_1 (by decide) ?_
  refine c_Vi (C := RX7) (As := [.int 4]) (rest := []) (wr := [((g 3), .inl ((a 3), 500, .inl fc))]) (n := 1) ⟨hx, hb, hml, hown, hT⟩ (k_X7_hasRoom_5 l dC dI g a ) hK hP hD hS hA [] rfl [0] [1] rfl rfl rfl rfl (by decide) rfl rfl mw_7 mw_3 mw_4 mw_5 mw_6 (by decide +kernel) ⟨Nat.le_of_ble_eq_true rfl, Nat.le_of_ble_eq_true rfl⟩ ⟨rfl, rfl⟩ rfl hl.1 (Nat.le_of_ble_eq_true rfl) rfl dX7_putNumber_2 ⟨Nat.zero_le _, Nat.zero_le _⟩ (fun r f1 H locs er hP hD hS => ?_)
  have hP : va_P (dC, dI) vwCl [((g 3), .inl ((a 3), 500, .inl fc)), ((g 2), .inr (7, [.ref (g 3), .int 12]))] H := hP
  have hD : va_D A [((g 3), .inl ((a 3), 500, .inl fc)), ((g 2), .inr (7, [.ref (g 3), .int 12]))] := hD
  have er : r = 1 := er
  subst er
  refine lv_if_ne (tgt := 9) hx hb dX7_putNumber_5 (by decide) (fun c2 => ?_) (fun c2 => ?_)
  · refine lv_bipush (v := 24) hx hb dX7_putNumber_9 (by decide) ?_
    refine lv_istore_n (lv' := [(2, .int 24), (0, .ref (g 2)), (1, .int p0)]) hx hb dX7_putNumber_11 rfl hl (by decide) rfl (fun ls hl => ?_)
    refine lv_iload_n hx hb dX7_putNumber_12 rfl (lv_at hl 0 rfl) ?_
    refine lv_if_lt (tgt := 45) hx hb dX7_putNumber_13 (by decide) (fun c3 => ?_) (fun c3 => ?_)
    · exact absurd c3 (by decide)
    · refine lv_aload_n hx hb dX7_putNumber_16 rfl (lv_at hl 1 rfl) ?_
      refine va_get (D := (dC, dI)) (ci := 7) (v := .ref (g 3)) (C := RX7) (T := TX7) (N := 2) hx hb hT inT7 hown hK hP 1 rfl rfl 0 (by decide) (hT _ mw_8) (fun _ h9 => h9) rfl dX7_putNumber_17 ?_
      refine lv_aload_n hx hb dX7_putNumber_20 rfl (lv_at hl 1 rfl) ?_
      refine va_get (D := (dC, dI)) (ci := 7) (v := .int 12) (C := RX7) (T := TX7) (N := 2) hx hb hT inT7 hown hK hP 1 rfl rfl 1 (by decide) (hT _ mw_1) (fun _ h9 => h9) rfl dX7_putNumber_21 ?_
      refine lv_iload_n hx hb dX7_putNumber_24 rfl (lv_at hl 2 rfl) ?_
      refine lv_iload_n hx hb dX7_putNumber_25 rfl (lv_at hl 0 rfl) ?_
      refine lv_ishr hx hb dX7_putNumber_26 ?_
      refine lv_topi (fun z4 _ => ?_)
      refine lv_i2b hx hb dX7_putNumber_27 rfl ?_
      refine lv_topi (fun z5 _ => ?_)
      refine va_bast hx hb hK hP hD hS 0 0 rfl rfl (by unfold vp_in; decide) dX7_putNumber_28 (fun H locs hP hD hS => ?_)
      have hP : va_P (dC, dI) vwCl [((g 3), .inl ((a 3), 500, .inl (upd fc (12 : Int32).toNatClampNeg (vp_nar .byte z5)))), ((g 2), .inr (7, [.ref (g 3), .int 12]))] H := hP
      have hD : va_D A [((g 3), .inl ((a 3), 500, .inl (upd fc (12 : Int32).toNatClampNeg (vp_nar .byte z5)))), ((g 2), .inr (7, [.ref (g 3), .int 12]))] := hD
      generalize (upd fc (12 : Int32).toNatClampNeg (vp_nar .byte z5)) = f6 at hP hD
      refine lv_aload_n hx hb dX7_putNumber_29 rfl (lv_at hl 1 rfl) ?_
      refine lv_dup hx hb dX7_putNumber_30 rfl ?_
      refine va_get (D := (dC, dI)) (ci := 7) (v := .int 12) (C := RX7) (T := TX7) (N := 2) hx hb hT inT7 hown hK hP 1 rfl rfl 1 (by decide) (hT _ mw_1) (fun _ h9 => h9) rfl dX7_putNumber_31 ?_
      refine lv_iconst (v := 1) hx hb dX7_putNumber_34 (by decide) ?_
      refine lv_iadd hx hb dX7_putNumber_35 ?_
      refine t_i 13 (by decide) ?_
      refine va_put (D := (dC, dI)) (ci := 7) (v := .int 13) (ty := .int) (C := RX7) (T := TX7) (N := 2) hx hb hT inT7 tyX7 tyX7_ok nmX7 hown hK hP hD hS 1 rfl rfl 1 (by decide) (hT _ mw_1) (fun _ h9 => h9) rfl (by decide +kernel) rfl rfl (Nat.le_of_ble_eq_true rfl) dX7_putNumber_36 (fun H locs hP hD hS => ?_)
      have hP : va_P (dC, dI) vwCl [((g 3), .inl ((a 3), 500, .inl f6)), ((g 2), .inr (7, [.ref (g 3), .int 13]))] H := hP
      have hD : va_D A [((g 3), .inl ((a 3), 500, .inl f6)), ((g 2), .inr (7, [.ref (g 3), .int 13]))] := hD
      refine lv_iinc (v := 16) (lv' := [(2, .int 16), (0, .ref (g 2)), (1, .int p0)]) hx hb dX7_putNumber_39 hl (k := 0) rfl (by decide) (by decide) rfl (fun ls hl => ?_)
      refine lv_goto (tgt := 12) hx hb dX7_putNumber_42 (by decide) ?_
      refine lv_iload_n hx hb dX7_putNumber_12 rfl (lv_at hl 0 rfl) ?_
      refine lv_if_lt (tgt := 45) hx hb dX7_putNumber_13 (by decide) (fun c7 => ?_) (fun c7 => ?_)
      · exact absurd c7 (by decide)
      · refine lv_aload_n hx hb dX7_putNumber_16 rfl (lv_at hl 1 rfl) ?_
        refine va_get (D := (dC, dI)) (ci := 7) (v := .ref (g 3)) (C := RX7) (T := TX7) (N := 2) hx hb hT inT7 hown hK hP 1 rfl rfl 0 (by decide) (hT _ mw_8) (fun _ h9 => h9) rfl dX7_putNumber_17 ?_
        refine lv_aload_n hx hb dX7_putNumber_20 rfl (lv_at hl 1 rfl) ?_
        refine va_get (D := (dC, dI)) (ci := 7) (v := .int 13) (C := RX7) (T := TX7) (N := 2) hx hb hT inT7 hown hK hP 1 rfl rfl 1 (by decide) (hT _ mw_1) (fun _ h9 => h9) rfl dX7_putNumber_21 ?_
        refine lv_iload_n hx hb dX7_putNumber_24 rfl (lv_at hl 2 rfl) ?_
        refine lv_iload_n hx hb dX7_putNumber_25 rfl (lv_at hl 0 rfl) ?_
        refine lv_ishr hx hb dX7_putNumber_26 ?_
        refine lv_topi (fun z8 _ => ?_)
        refine lv_i2b hx hb dX7_putNumber_27 rfl ?_
        refine lv_topi (fun z9 _ => ?_)
        refine va_bast hx hb hK hP hD hS 0 0 rfl rfl (by unfold vp_in; decide) dX7_putNumber_28 (fun H locs hP hD hS => ?_)
        have hP : va_P (dC, dI) vwCl [((g 3), .inl ((a 3), 500, .inl (upd f6 (13 : Int32).toNatClampNeg (vp_nar .byte z9)))), ((g 2), .inr (7, [.ref (g 3), .int 13]))] H := hP
        have hD : va_D A [((g 3), .inl ((a 3), 500, .inl (upd f6 (13 : Int32).toNatClampNeg (vp_nar .byte z9)))), ((g 2), .inr (7, [.ref (g 3), .int 13]))] := hD
        generalize (upd f6 (13 : Int32).toNatClampNeg (vp_nar .byte z9)) = f10 at hP hD
        refine lv_aload_n hx hb dX7_putNumber_29 rfl (lv_at hl 1 rfl) ?_
        refine lv_dup hx hb dX7_putNumber_30 rfl ?_
        refine va_get (D := (dC, dI)) (ci := 7) (v := .int 13) (C := RX7) (T := TX7) (N := 2) hx hb hT inT7 hown hK hP 1 rfl rfl 1 (by decide) (hT _ mw_1) (fun _ h9 => h9) rfl dX7_putNumber_31 ?_
        refine lv_iconst (v := 1) hx hb dX7_putNumber_34 (by decide) ?_
        refine lv_iadd hx hb dX7_putNumber_35 ?_
        refine t_i 14 (by decide) ?_
        refine va_put (D := (dC, dI)) (ci := 7) (v := .int 14) (ty := .int) (C := RX7) (T := TX7) (N := 2) hx hb hT inT7 tyX7 tyX7_ok nmX7 hown hK hP hD hS 1 rfl rfl 1 (by decide) (hT _ mw_1) (fun _ h9 => h9) rfl (by decide +kernel) rfl rfl (Nat.le_of_ble_eq_true rfl) dX7_putNumber_36 (fun H locs hP hD hS => ?_)
        have hP : va_P (dC, dI) vwCl [((g 3), .inl ((a 3), 500, .inl f10)), ((g 2), .inr (7, [.ref (g 3), .int 14]))] H := hP
        have hD : va_D A [((g 3), .inl ((a 3), 500, .inl f10)), ((g 2), .inr (7, [.ref (g 3), .int 14]))] := hD
        refine lv_iinc (v := 8) (lv' := [(2, .int 8), (0, .ref (g 2)), (1, .int p0)]) hx hb dX7_putNumber_39 hl (k := 0) rfl (by decide) (by decide) rfl (fun ls hl => ?_)
        refine lv_goto (tgt := 12) hx hb dX7_putNumber_42 (by decide) ?_
        refine lv_iload_n hx hb dX7_putNumber_12 rfl (lv_at hl 0 rfl) ?_
        refine lv_if_lt (tgt := 45) hx hb dX7_putNumber_13 (by decide) (fun c11 => ?_) (fun c11 => ?_)
        · exact absurd c11 (by decide)
        · refine lv_aload_n hx hb dX7_putNumber_16 rfl (lv_at hl 1 rfl) ?_
          refine va_get (D := (dC, dI)) (ci := 7) (v := .ref (g 3)) (C := RX7) (T := TX7) (N := 2) hx hb hT inT7 hown hK hP 1 rfl rfl 0 (by decide) (hT _ mw_8) (fun _ h9 => h9) rfl dX7_putNumber_17 ?_
          refine lv_aload_n hx hb dX7_putNumber_20 rfl (lv_at hl 1 rfl) ?_
          refine va_get (D := (dC, dI)) (ci := 7) (v := .int 14) (C := RX7) (T := TX7) (N := 2) hx hb hT inT7 hown hK hP 1 rfl rfl 1 (by decide) (hT _ mw_1) (fun _ h9 => h9) rfl dX7_putNumber_21 ?_
          refine lv_iload_n hx hb dX7_putNumber_24 rfl (lv_at hl 2 rfl) ?_
          refine lv_iload_n hx hb dX7_putNumber_25 rfl (lv_at hl 0 rfl) ?_
          refine lv_ishr hx hb dX7_putNumber_26 ?_
          refine lv_topi (fun z12 _ => ?_)
          refine lv_i2b hx hb dX7_putNumber_27 rfl ?_
          refine lv_topi (fun z13 _ => ?_)
          refine va_bast hx hb hK hP hD hS 0 0 rfl rfl (by unfold vp_in; decide) dX7_putNumber_28 (fun H locs hP hD hS => ?_)
          have hP : va_P (dC, dI) vwCl [((g 3), .inl ((a 3), 500, .inl (upd f10 (14 : Int32).toNatClampNeg (vp_nar .byte z13)))), ((g 2), .inr (7, [.ref (g 3), .int 14]))] H := hP
          have hD : va_D A [((g 3), .inl ((a 3), 500, .inl (upd f10 (14 : Int32).toNatClampNeg (vp_nar .byte z13)))), ((g 2), .inr (7, [.ref (g 3), .int 14]))] := hD
          generalize (upd f10 (14 : Int32).toNatClampNeg (vp_nar .byte z13)) = f14 at hP hD
          refine lv_aload_n hx hb dX7_putNumber_29 rfl (lv_at hl 1 rfl) ?_
          refine lv_dup hx hb dX7_putNumber_30 rfl ?_
          refine va_get (D := (dC, dI)) (ci := 7) (v := .int 14) (C := RX7) (T := TX7) (N := 2) hx hb hT inT7 hown hK hP 1 rfl rfl 1 (by decide) (hT _ mw_1) (fun _ h9 => h9) rfl dX7_putNumber_31 ?_
          refine lv_iconst (v := 1) hx hb dX7_putNumber_34 (by decide) ?_
          refine lv_iadd hx hb dX7_putNumber_35 ?_
          refine t_i 15 (by decide) ?_
          refine va_put (D := (dC, dI)) (ci := 7) (v := .int 15) (ty := .int) (C := RX7) (T := TX7) (N := 2) hx hb hT inT7 tyX7 tyX7_ok nmX7 hown hK hP hD hS 1 rfl rfl 1 (by decide) (hT _ mw_1) (fun _ h9 => h9) rfl (by decide +kernel) rfl rfl (Nat.le_of_ble_eq_true rfl) dX7_putNumber_36 (fun H locs hP hD hS => ?_)
          have hP : va_P (dC, dI) vwCl [((g 3), .inl ((a 3), 500, .inl f14)), ((g 2), .inr (7, [.ref (g 3), .int 15]))] H := hP
          have hD : va_D A [((g 3), .inl ((a 3), 500, .inl f14)), ((g 2), .inr (7, [.ref (g 3), .int 15]))] := hD
          refine lv_iinc (v := 0) (lv' := [(2, .int 0), (0, .ref (g 2)), (1, .int p0)]) hx hb dX7_putNumber_39 hl (k := 0) rfl (by decide) (by decide) rfl (fun ls hl => ?_)
          refine lv_goto (tgt := 12) hx hb dX7_putNumber_42 (by decide) ?_
          refine lv_iload_n hx hb dX7_putNumber_12 rfl (lv_at hl 0 rfl) ?_
          refine lv_if_lt (tgt := 45) hx hb dX7_putNumber_13 (by decide) (fun c15 => ?_) (fun c15 => ?_)
          · exact absurd c15 (by decide)
          · refine lv_aload_n hx hb dX7_putNumber_16 rfl (lv_at hl 1 rfl) ?_
            refine va_get (D := (dC, dI)) (ci := 7) (v := .ref (g 3)) (C := RX7) (T := TX7) (N := 2) hx hb hT inT7 hown hK hP 1 rfl rfl 0 (by decide) (hT _ mw_8) (fun _ h9 => h9) rfl dX7_putNumber_17 ?_
            refine lv_aload_n hx hb dX7_putNumber_20 rfl (lv_at hl 1 rfl) ?_
            refine va_get (D := (dC, dI)) (ci := 7) (v := .int 15) (C := RX7) (T := TX7) (N := 2) hx hb hT inT7 hown hK hP 1 rfl rfl 1 (by decide) (hT _ mw_1) (fun _ h9 => h9) rfl dX7_putNumber_21 ?_
            refine lv_iload_n hx hb dX7_putNumber_24 rfl (lv_at hl 2 rfl) ?_
            refine lv_iload_n hx hb dX7_putNumber_25 rfl (lv_at hl 0 rfl) ?_
            refine lv_ishr hx hb dX7_putNumber_26 ?_
            refine lv_topi (fun z16 _ => ?_)
            refine lv_i2b hx hb dX7_putNumber_27 rfl ?_
            refine lv_topi (fun z17 _ => ?_)
            refine va_bast hx hb hK hP hD hS 0 0 rfl rfl (by unfold vp_in; decide) dX7_putNumber_28 (fun H locs hP hD hS => ?_)
            have hP : va_P (dC, dI) vwCl [((g 3), .inl ((a 3), 500, .inl (upd f14 (15 : Int32).toNatClampNeg (vp_nar .byte z17)))), ((g 2), .inr (7, [.ref (g 3), .int 15]))] H := hP
            have hD : va_D A [((g 3), .inl ((a 3), 500, .inl (upd f14 (15 : Int32).toNatClampNeg (vp_nar .byte z17)))), ((g 2), .inr (7, [.ref (g 3), .int 15]))] := hD
            generalize (upd f14 (15 : Int32).toNatClampNeg (vp_nar .byte z17)) = f18 at hP hD
            refine lv_aload_n hx hb dX7_putNumber_29 rfl (lv_at hl 1 rfl) ?_
            refine lv_dup hx hb dX7_putNumber_30 rfl ?_
            refine va_get (D := (dC, dI)) (ci := 7) (v := .int 15) (C := RX7) (T := TX7) (N := 2) hx hb hT inT7 hown hK hP 1 rfl rfl 1 (by decide) (hT _ mw_1) (fun _ h9 => h9) rfl dX7_putNumber_31 ?_
            refine lv_iconst (v := 1) hx hb dX7_putNumber_34 (by decide) ?_
            refine lv_iadd hx hb dX7_putNumber_35 ?_
            refine t_i 16 (by decide) ?_
            refine va_put (D := (dC, dI)) (ci := 7) (v := .int 16) (ty := .int) (C := RX7) (T := TX7) (N := 2) hx hb hT inT7 tyX7 tyX7_ok nmX7 hown hK hP hD hS 1 rfl rfl 1 (by decide) (hT _ mw_1) (fun _ h9 => h9) rfl (by decide +kernel) rfl rfl (Nat.le_of_ble_eq_true rfl) dX7_putNumber_36 (fun H locs hP hD hS => ?_)
            have hP : va_P (dC, dI) vwCl [((g 3), .inl ((a 3), 500, .inl f18)), ((g 2), .inr (7, [.ref (g 3), .int 16]))] H := hP
            have hD : va_D A [((g 3), .inl ((a 3), 500, .inl f18)), ((g 2), .inr (7, [.ref (g 3), .int 16]))] := hD
            refine lv_iinc (v := (-8)) (lv' := [(2, .int (-8)), (0, .ref (g 2)), (1, .int p0)]) hx hb dX7_putNumber_39 hl (k := 0) rfl (by decide) (by decide) rfl (fun ls hl => ?_)
            refine lv_goto (tgt := 12) hx hb dX7_putNumber_42 (by decide) ?_
            refine lv_iload_n hx hb dX7_putNumber_12 rfl (lv_at hl 0 rfl) ?_
            refine lv_if_lt (tgt := 45) hx hb dX7_putNumber_13 (by decide) (fun c19 => ?_) (fun c19 => ?_)
            · exact e_v hx hb hr hlocks hP hD hS f18 [1, 0] rfl rfl dX7_putNumber_45
            · exact absurd c19 (by decide)
  · exact absurd c2 (by decide)
