set_option maxRecDepth 100000 in
set_option maxHeartbeats 4000000 in
theorem k_X7_hasRoom_6 (l : Launch) (dC : Nat → ClassId) (dI : Nat → Nat → Nat) (g : Nat → Nat) (a : Nat → ClassId)   : MI l dC dI yX7_hasRoom (Cond.code yX7_hasRoom cX7_hasRoom 2 (some .boolean)) ({ frames := 0, cells := 0, slots := 0, locals := 0 }) [.ref (g 2), .int 4] [] [((g 2), .inr (7, [.ref (g 3), .int 16]))] (fun r : Int32 => r = 1) (fun f => [((g 2), .inr (7, [.ref (g 3), .int 16]))]) := by
  refine m_of (Qc := fun A => QI dC dI A (fun r : Int32 => r = 1) (fun f => [((g 2), .inr (7, [.ref (g 3), .int 16]))])) (lv := [(0, .ref (g 2)), (1, .int 4)]) (by decide) (Nat.le_of_ble_eq_true rfl) rfl ?_
  intro p e s m below meth c A ls hx hb hr hml hT hown hlocks hname hP hK hD hS hA hl
  have hown : s.vm.findClass RX7 = some m.cls := hown
  refine lv_aload_n hx hb dX7_hasRoom_0 rfl (lv_at hl 0 rfl) ?_
  refine va_get (D := (dC, dI)) (ci := 7) (v := .int 16) (C := RX7) (T := TX7) (N := 2) hx hb hT inT7 hown hK hP 0 rfl rfl 1 (by decide) (hT _ mw_1) (fun _ h9 => h9) rfl dX7_hasRoom_1 ?_
  refine lv_iload_n hx hb dX7_hasRoom_4 rfl (lv_at hl 1 rfl) ?_
  refine lv_iadd hx hb dX7_hasRoom_5 ?_
  refine t_i 20 (by decide) ?_
  refine lv_sipush (v := 500) hx hb dX7_hasRoom_6 (by decide) ?_
  refine lv_icmp_gt (tgt := 16) hx hb dX7_hasRoom_9 (by decide) (fun c1 => ?_) (fun c1 => ?_)
  · exact absurd c1 (by decide)
  · refine lv_iconst (v := 1) hx hb dX7_hasRoom_12 (by decide) ?_
    refine lv_goto (tgt := 17) hx hb dX7_hasRoom_13 (by decide) ?_
    exact e_z hx hb hr hlocks hP hD hS (fun _ => 0) [0] rfl rfl rfl rfl dX7_hasRoom_17
set_option maxRecDepth 100000 in
set_option maxHeartbeats 4000000 in
theorem k_X7_putNumber_5 (l : Launch) (dC : Nat → ClassId) (dI : Nat → Nat → Nat) (g : Nat → Nat) (a : Nat → ClassId) (fc : Nat → Int32) (p0 : Int32)  : MV l dC dI yX7_putNumber (Cond.code yX7_putNumber cX7_putNumber 3 none) ({ frames := 1, cells := 0, slots := 0, locals := 21 }) [.ref (g 2), .int p0] [((a 3), .byte)] [((g 2), .inr (7, [.ref (g 3), .int 16])), ((g 3), .inl ((a 3), 500, .inl fc))] (fun f => [((g 2), .inr (7, [.ref (g 3), .int 20])), ((g 3), .inl ((a 3), 500, .inl f))]) := by
  refine m_of (Qc := fun A => QV dC dI A (fun f => [((g 2), .inr (7, [.ref (g 3), .int 20])), ((g 3), .inl ((a 3), 500, .inl f))])) (lv := [(0, .ref (g 2)), (1, .int p0)]) (by decide) (Nat.le_of_ble_eq_true rfl) rfl ?_
  intro p e s m below meth c A ls hx hb hr hml hT hown hlocks hname hP hK hD hS hA hl
  have hown : s.vm.findClass RX7 = some m.cls := hown
  refine lv_aload_n hx hb dX7_putNumber_0 rfl (lv_at hl 0 rfl) ?_
  refine lv_iconst (v := 4) hx hb dX7_putNumber_1 (by decide) ?_
  refine c_Vi (C := RX7) (As := [.int 4]) (rest := []) (wr := [((g 3), .inl ((a 3), 500, .inl fc))]) (n := 1) ⟨hx, hb, hml, hown, hT⟩ (k_X7_hasRoom_6 l dC dI g a ) hK hP hD hS hA [] rfl [0] [1] rfl rfl rfl rfl (by decide) rfl rfl mw_7 mw_3 mw_4 mw_5 mw_6 (by decide +kernel) ⟨Nat.le_of_ble_eq_true rfl, Nat.le_of_ble_eq_true rfl⟩ ⟨rfl, rfl⟩ rfl hl.1 (Nat.le_of_ble_eq_true rfl) rfl dX7_putNumber_2 ⟨Nat.zero_le _, Nat.zero_le _⟩ (fun r f1 H locs er hP hD hS => ?_)
  have hP : va_P (dC, dI) vwCl [((g 3), .inl ((a 3), 500, .inl fc)), ((g 2), .inr (7, [.ref (g 3), .int 16]))] H := hP
  have hD : va_D A [((g 3), .inl ((a 3), 500, .inl fc)), ((g 2), .inr (7, [.ref (g 3), .int 16]))] := hD
  have er : r = 1 := er
  subst er
  refine lv_if_ne (tgt := 9) hx hb dX7_putNumber_5 (by decide) (fun c2 => ?_) (fun c2 => ?_)
  · refine lv_bipush (v := 24) hx hb dX7_putNumber_9 (by decide) ?_
    refine lv_istore_n (lv' := [(2, .int 24), (0, .ref (g 2)), (1, .int p0)]) hx hb dX7_putNumber_11 rfl hl (by decide) rfl (fun ls hl => ?_)
    refine lv_iload_n hx hb dX7_putNumber_12 rfl (lv_at hl 0 rfl) ?_
    refine lv_if_lt (tgt := 45) hx hb dX7_putNumber_13 (by decide) (fun c3 => ?_) (fun c3 => ?_)
    · exact absurd c3 (by decide)
    · refine lv_aload_n hx hb dX7_putNumber_16 rfl (lv_at hl 1 rfl) ?_
      refine va_get (D := (dC, dI)) (ci := 7) (v := .ref (g 3)) (C := RX7) (T := TX7) (N := 2) hx hb hT inT7 hown hK hP 1 rfl rfl 0 (by decide) (hT _ mw_8) (fun _ h9 => h9) rfl dX7_putNumber_17 ?_
      refine lv_aload_n hx hb dX7_putNumber_20 rfl (lv_at hl 1 rfl) ?_
      refine va_get (D := (dC, dI)) (ci := 7) (v := .int 16) (C := RX7) (T := TX7) (N := 2) hx hb hT inT7 hown hK hP 1 rfl rfl 1 (by decide) (hT _ mw_1) (fun _ h9 => h9) rfl dX7_putNumber_21 ?_
      refine lv_iload_n hx hb dX7_putNumber_24 rfl (lv_at hl 2 rfl) ?_
      refine lv_iload_n hx hb dX7_putNumber_25 rfl (lv_at hl 0 rfl) ?_
      refine lv_ishr hx hb dX7_putNumber_26 ?_
      refine lv_topi (fun z4 _ => ?_)
      refine lv_i2b hx hb dX7_putNumber_27 rfl ?_
      refine lv_topi (fun z5 _ => ?_)
      refine va_bast hx hb hK hP hD hS 0 0 rfl rfl (by unfold vp_in; decide) dX7_putNumber_28 (fun H locs hP hD hS => ?_)
      have hP : va_P (dC, dI) vwCl [((g 3), .inl ((a 3), 500, .inl (upd fc (16 : Int32).toNatClampNeg (vp_nar .byte z5)))), ((g 2), .inr (7, [.ref (g 3), .int 16]))] H := hP
      have hD : va_D A [((g 3), .inl ((a 3), 500, .inl (upd fc (16 : Int32).toNatClampNeg (vp_nar .byte z5)))), ((g 2), .inr (7, [.ref (g 3), .int 16]))] := hD
      generalize (upd fc (16 : Int32).toNatClampNeg (vp_nar .byte z5)) = f6 at hP hD
      refine lv_aload_n hx hb dX7_putNumber_29 rfl (lv_at hl 1 rfl) ?_
      refine lv_dup hx hb dX7_putNumber_30 rfl ?_
      refine va_get (D := (dC, dI)) (ci := 7) (v := .int 16) (C := RX7) (T := TX7) (N := 2) hx hb hT inT7 hown hK hP 1 rfl rfl 1 (by decide) (hT _ mw_1) (fun _ h9 => h9) rfl dX7_putNumber_31 ?_
      refine lv_iconst (v := 1) hx hb dX7_putNumber_34 (by decide) ?_
      refine lv_iadd hx hb dX7_putNumber_35 ?_
      refine t_i 17 (by decide) ?_
      refine va_put (D := (dC, dI)) (ci := 7) (v := .int 17) (ty := .int) (C := RX7) (T := TX7) (N := 2) hx hb hT inT7 tyX7 tyX7_ok nmX7 hown hK hP hD hS 1 rfl rfl 1 (by decide) (hT _ mw_1) (fun _ h9 => h9) rfl (by decide +kernel) rfl rfl (Nat.le_of_ble_eq_true rfl) dX7_putNumber_36 (fun H locs hP hD hS => ?_)
      have hP : va_P (dC, dI) vwCl [((g 3), .inl ((a 3), 500, .inl f6)), ((g 2), .inr (7, [.ref (g 3), .int 17]))] H := hP
      have hD : va_D A [((g 3), .inl ((a 3), 500, .inl f6)), ((g 2), .inr (7, [.ref (g 3), .int 17]))] := hD
      refine lv_iinc (v := 16) (lv' := [(2, .int 16), (0, .ref (g 2)), (1, .int p0)]) hx hb dX7_putNumber_39 hl (k := 0) rfl (by decide) (by decide) rfl (fun ls hl => ?_)
      refine lv_goto (tgt := 12) hx hb dX7_putNumber_42 (by decide) ?_
      refine lv_iload_n hx hb dX7_putNumber_12 rfl (lv_at hl 0 rfl) ?_
      refine lv_if_lt (tgt := 45) hx hb dX7_putNumber_13 (by decide) (fun c7 => ?_) (fun c7 => ?_)
      · exact absurd c7 (by decide)
      · refine lv_aload_n hx hb dX7_putNumber_16 rfl (lv_at hl 1 rfl) ?_
        refine va_get (D := (dC, dI)) (ci := 7) (v := .ref (g 3)) (C := RX7) (T := TX7) (N := 2) hx hb hT inT7 hown hK hP 1 rfl rfl 0 (by decide) (hT _ mw_8) (fun _ h9 => h9) rfl dX7_putNumber_17 ?_
        refine lv_aload_n hx hb dX7_putNumber_20 rfl (lv_at hl 1 rfl) ?_
        refine va_get (D := (dC, dI)) (ci := 7) (v := .int 17) (C := RX7) (T := TX7) (N := 2) hx hb hT inT7 hown hK hP 1 rfl rfl 1 (by decide) (hT _ mw_1) (fun _ h9 => h9) rfl dX7_putNumber_21 ?_
        refine lv_iload_n hx hb dX7_putNumber_24 rfl (lv_at hl 2 rfl) ?_
        refine lv_iload_n hx hb dX7_putNumber_25 rfl (lv_at hl 0 rfl) ?_
        refine lv_ishr hx hb dX7_putNumber_26 ?_
        refine lv_topi (fun z8 _ => ?_)
        refine lv_i2b hx hb dX7_putNumber_27 rfl ?_
        refine lv_topi (fun z9 _ => ?_)
        refine va_bast hx hb hK hP hD hS 0 0 rfl rfl (by unfold vp_in; decide) dX7_putNumber_28 (fun H locs hP hD hS => ?_)
        have hP : va_P (dC, dI) vwCl [((g 3), .inl ((a 3), 500, .inl (upd f6 (17 : Int32).toNatClampNeg (vp_nar .byte z9)))), ((g 2), .inr (7, [.ref (g 3), .int 17]))] H := hP
        have hD : va_D A [((g 3), .inl ((a 3), 500, .inl (upd f6 (17 : Int32).toNatClampNeg (vp_nar .byte z9)))), ((g 2), .inr (7, [.ref (g 3), .int 17]))] := hD
        generalize (upd f6 (17 : Int32).toNatClampNeg (vp_nar .byte z9)) = f10 at hP hD
        refine lv_aload_n hx hb dX7_putNumber_29 rfl (lv_at hl 1 rfl) ?_
        refine lv_dup hx hb dX7_putNumber_30 rfl ?_
        refine va_get (D := (dC, dI)) (ci := 7) (v := .int 17) (C := RX7) (T := TX7) (N := 2) hx hb hT inT7 hown hK hP 1 rfl rfl 1 (by decide) (hT _ mw_1) (fun _ h9 => h9) rfl dX7_putNumber_31 ?_
        refine lv_iconst (v := 1) hx hb dX7_putNumber_34 (by decide) ?_
        refine lv_iadd hx hb dX7_putNumber_35 ?_
        refine t_i 18 (by decide) ?_
        refine va_put (D := (dC, dI)) (ci := 7) (v := .int 18) (ty := .int) (C := RX7) (T := TX7) (N := 2) hx hb hT inT7 tyX7 tyX7_ok nmX7 hown hK hP hD hS 1 rfl rfl 1 (by decide) (hT _ mw_1) (fun _ h9 => h9) rfl (by decide +kernel) rfl rfl (Nat.le_of_ble_eq_true rfl) dX7_putNumber_36 (fun H locs hP hD hS => ?_)
        have hP : va_P (dC, dI) vwCl [((g 3), .inl ((a 3), 500, .inl f10)), ((g 2), .inr (7, [.ref (g 3), .int 18]))] H := hP
        have hD : va_D A [((g 3), .inl ((a 3), 500, .inl f10)), ((g 2), .inr (7, [.ref (g 3), .int 18]))] := hD
        refine lv_iinc (v := 8) (lv' := [(2, .int 8), (0, .ref (g 2)), (1, .int p0)]) hx hb dX7_putNumber_39 hl (k := 0) rfl (by decide) (by decide) rfl (fun ls hl => ?_)
        refine lv_goto (tgt := 12) hx hb dX7_putNumber_42 (by decide) ?_
        refine lv_iload_n hx hb dX7_putNumber_12 rfl (lv_at hl 0 rfl) ?_
        refine lv_if_lt (tgt := 45) hx hb dX7_putNumber_13 (by decide) (fun c11 => ?_) (fun c11 => ?_)
        · exact absurd c11 (by decide)
        · refine lv_aload_n hx hb dX7_putNumber_16 rfl (lv_at hl 1 rfl) ?_
          refine va_get (D := (dC, dI)) (ci := 7) (v := .ref (g 3)) (C := RX7) (T := TX7) (N := 2) hx hb hT inT7 hown hK hP 1 rfl rfl 0 (by decide) (hT _ mw_8) (fun _ h9 => h9) rfl dX7_putNumber_17 ?_
          refine lv_aload_n hx hb dX7_putNumber_20 rfl (lv_at hl 1 rfl) ?_
          refine va_get (D := (dC, dI)) (ci := 7) (v := .int 18) (C := RX7) (T := TX7) (N := 2) hx hb hT inT7 hown hK hP 1 rfl rfl 1 (by decide) (hT _ mw_1) (fun _ h9 => h9) rfl dX7_putNumber_21 ?_
          refine lv_iload_n hx hb dX7_putNumber_24 rfl (lv_at hl 2 rfl) ?_
          refine lv_iload_n hx hb dX7_putNumber_25 rfl (lv_at hl 0 rfl) ?_
          refine lv_ishr hx hb dX7_putNumber_26 ?_
          refine lv_topi (fun z12 _ => ?_)
          refine lv_i2b hx hb dX7_putNumber_27 rfl ?_
          refine lv_topi (fun z13 _ => ?_)
          refine va_bast hx hb hK hP hD hS 0 0 rfl rfl (by unfold vp_in; decide) dX7_putNumber_28 (fun H locs hP hD hS => ?_)
          have hP : va_P (dC, dI) vwCl [((g 3), .inl ((a 3), 500, .inl (upd f10 (18 : Int32).toNatClampNeg (vp_nar .byte z13)))), ((g 2), .inr (7, [.ref (g 3), .int 18]))] H := hP
          have hD : va_D A [((g 3), .inl ((a 3), 500, .inl (upd f10 (18 : Int32).toNatClampNeg (vp_nar .byte z13)))), ((g 2), .inr (7, [.ref (g 3), .int 18]))] := hD
          generalize (upd f10 (18 : Int32).toNatClampNeg (vp_nar .byte z13)) = f14 at hP hD
          refine lv_aload_n hx hb dX7_putNumber_29 rfl (lv_at hl 1 rfl) ?_
          refine lv_dup hx hb dX7_putNumber_30 rfl ?_
          refine va_get (D := (dC, dI)) (ci := 7) (v := .int 18) (C := RX7) (T := TX7) (N := 2) hx hb hT inT7 hown hK hP 1 rfl rfl 1 (by decide) (hT _ mw_1) (fun _ h9 => h9) rfl dX7_putNumber_31 ?_
          refine lv_iconst (v := 1) hx hb dX7_putNumber_34 (by decide) ?_
          refine lv_iadd hx hb dX7_putNumber_35 ?_
          refine t_i 19 (by decide) ?_
          refine va_put (D := (dC, dI)) (ci := 7) (v := .int 19) (ty := .int) (C := RX7) (T := TX7) (N := 2) hx hb hT inT7 tyX7 tyX7_ok nmX7 hown hK hP hD hS 1 rfl rfl 1 (by decide) (hT _ mw_1) (fun _ h9 => h9) rfl (by decide +kernel) rfl rfl (Nat.le_of_ble_eq_true rfl) dX7_putNumber_36 (fun H locs hP hD hS => ?_)
          have hP : va_P (dC, dI) vwCl [((g 3), .inl ((a 3), 500, .inl f14)), ((g 2), .inr (7, [.ref (g 3), .int 19]))] H := hP
          have hD : va_D A [((g 3), .inl ((a 3), 500, .inl f14)), ((g 2), .inr (7, [.ref (g 3), .int 19]))] := hD
          refine lv_iinc (v := 0) (lv' := [(2, .int 0), (0, .ref (g 2)), (1, .int p0)]) hx hb dX7_putNumber_39 hl (k := 0) rfl (by decide) (by decide) rfl (fun ls hl => ?_)
          refine lv_goto (tgt := 12) hx hb dX7_putNumber_42 (by decide) ?_
          refine lv_iload_n hx hb dX7_putNumber_12 rfl (lv_at hl 0 rfl) ?_
          refine lv_if_lt (tgt := 45) hx hb dX7_putNumber_13 (by decide) (fun c15 => ?_) (fun c15 => ?_)
          · exact absurd c15 (by decide)
          · refine lv_aload_n hx hb dX7_putNumber_16 rfl (lv_at hl 1 rfl) ?_
            refine va_get (D := (dC, dI)) (ci := 7) (v := .ref (g 3)) (C := RX7) (T := TX7) (N := 2) hx hb hT inT7 hown hK hP 1 rfl rfl 0 (by decide) (hT _ mw_8) (fun _ h9 => h9) rfl dX7_putNumber_17 ?_
            refine lv_aload_n hx hb dX7_putNumber_20 rfl (lv_at hl 1 rfl) ?_
            refine va_get (D := (dC, dI)) (ci := 7) (v := .int 19) (C := RX7) (T := TX7) (N := 2) hx hb hT inT7 hown hK hP 1 rfl rfl 1 (by decide) (hT _ mw_1) (fun _ h9 => h9) rfl dX7_putNumber_21 ?_
            refine lv_iload_n hx hb dX7_putNumber_24 rfl (lv_at hl 2 rfl) ?_
            refine lv_iload_n hx hb dX7_putNumber_25 rfl (lv_at hl 0 rfl) ?_
            refine lv_ishr hx hb dX7_putNumber_26 ?_
            refine lv_topi (fun z16 _ => ?_)
            refine lv_i2b hx hb dX7_putNumber_27 rfl ?_
            refine lv_topi (fun z17 _ => ?_)
            refine va_bast hx hb hK hP hD hS 0 0 rfl rfl (by unfold vp_in; decide) dX7_putNumber_28 (fun H locs hP hD hS => ?_)
            have hP : va_P (dC, dI) vwCl [((g 3), .inl ((a 3), 500, .inl (upd f14 (19 : Int32).toNatClampNeg (vp_nar .byte z17)))), ((g 2), .inr (7, [.ref (g 3), .int 19]))] H := hP
            have hD : va_D A [((g 3), .inl ((a 3), 500, .inl (upd f14 (19 : Int32).toNatClampNeg (vp_nar .byte z17)))), ((g 2), .inr (7, [.ref (g 3), .int 19]))] := hD
            generalize (upd f14 (19 : Int32).toNatClampNeg (vp_nar .byte z17)) = f18 at hP hD
            refine lv_aload_n hx hb dX7_putNumber_29 rfl (lv_at hl 1 rfl) ?_
            refine lv_dup hx hb dX7_putNumber_30 rfl ?_
            refine va_get (D := (dC, dI)) (ci := 7) (v := .int 19) (C := RX7) (T := TX7) (N := 2) hx hb hT inT7 hown hK hP 1 rfl rfl 1 (by decide) (hT _ mw_1) (fun _ h9 => h9) rfl dX7_putNumber_31 ?_
            refine lv_iconst (v := 1) hx hb dX7_putNumber_34 (by decide) ?_
            refine lv_iadd hx hb dX7_putNumber_35 ?_
            refine t_i 20 (by decide) ?_
            refine va_put (D := (dC, dI)) (ci := 7) (v := .int 20) (ty := .int) (C := RX7) (T := TX7) (N := 2) hx hb hT inT7 tyX7 tyX7_ok nmX7 hown hK hP hD hS 1 rfl rfl 1 (by decide) (hT _ mw_1) (fun _ h9 => h9) rfl (by decide +kernel) rfl rfl (Nat.le_of_ble_eq_true rfl) dX7_putNumber_36 (fun H locs hP hD hS => ?_)
            have hP : va_P (dC, dI) vwCl [((g 3), .inl ((a 3), 500, .inl f18)), ((g 2), .inr (7, [.ref (g 3), .int 20]))] H := hP
            have hD : va_D A [((g 3), .inl ((a 3), 500, .inl f18)), ((g 2), .inr (7, [.ref (g 3), .int 20]))] := hD
            refine lv_iinc (v := (-8)) (lv' := [(2, .int (-8)), (0, .ref (g 2)), (1, .int p0)]) hx hb dX7_putNumber_39 hl (k := 0) rfl (by decide) (by decide) rfl (fun ls hl => ?_)
            refine lv_goto (tgt := 12) hx hb dX7_putNumber_42 (by decide) ?_
            refine lv_iload_n hx hb dX7_putNumber_12 rfl (lv_at hl 0 rfl) ?_
            refine lv_if_lt (tgt := 45) hx hb dX7_putNumber_13 (by decide) (fun c19 => ?_) (fun c19 => ?_)
            · exact e_v hx hb hr hlocks hP hD hS f18 [1, 0] rfl rfl dX7_putNumber_45
            · exact absurd c19 (by decide)
  · exact absurd c2 (by decide)
set_option maxRecDepth 100000 in
set_option maxHeartbeats 4000000 in
theorem k_X8_feed (l : Launch) (dC : Nat → ClassId) (dI : Nat → Nat → Nat) (g : Nat → Nat) (a : Nat → ClassId) (p0 : Int32) (p1 : Int32) (p2 : Int32) (p3 : Int32) (p4 : Int32)  : MI l dC dI yX8_feed (Cond.code yX8_feed cX8_feed 6 (some .int)) ({ frames := 2, cells := 0, slots := 0, locals := 43 }) [.ref (g 0), .int p0, .int p1, .int p2, .int p3, .int p4] [((a 3), .byte)] [((g 0), .inr (8, [.ref (g 1), .ref (g 2), .ref (g 4), .ref (g 16), .ref (g 64), .ref (g 65), .ref (g 66), .ref (g 70), .ref (g 75), .ref (g 87), .ref (g 94), .int 0, .int 0, .int 0])), ((g 2), .inr (7, [.ref (g 3), .int 0])), ((g 3), .inl ((a 3), 500, .inl (fun _ => 0)))] (fun r : Int32 => r = 20) (fun f => []) := by
  refine m_of (Qc := fun A => QI dC dI A (fun r : Int32 => r = 20) (fun f => [])) (lv := [(0, .ref (g 0)), (1, .int p0), (2, .int p1), (3, .int p2), (4, .int p3), (5, .int p4)]) (by decide) (Nat.le_of_ble_eq_true rfl) rfl ?_
  intro p e s m below meth c A ls hx hb hr hml hT hown hlocks hname hP hK hD hS hA hl
  have hown : s.vm.findClass RX8 = some m.cls := hown
  refine lv_aload_n hx hb dX8_feed_0 rfl (lv_at hl 0 rfl) ?_
  refine va_get (D := (dC, dI)) (ci := 8) (v := .ref (g 2)) (C := RX8) (T := TX8) (N := 14) hx hb hT inT8 hown hK hP 0 rfl rfl 1 (by decide) (hT _ mw_0) (fun _ h9 => h9) rfl dX8_feed_1 ?_
  refine lv_bipush (v := 20) hx hb dX8_feed_4 (by decide) ?_
  refine c_Vi (C := RX7) (As := [.int 20]) (rest := []) (wr := [((g 0), .inr (8, [.ref (g 1), .ref (g 2), .ref (g 4), .ref (g 16), .ref (g 64), .ref (g 65), .ref (g 66), .ref (g 70), .ref (g 75), .ref (g 87), .ref (g 94), .int 0, .int 0, .int 0])), ((g 3), .inl ((a 3), 500, .inl (fun _ => 0)))]) (n := 1) ⟨hx, hb, hml, hown, hT⟩ (k_X7_hasRoom l dC dI g a ) hK hP hD hS hA [] rfl [1] [0, 2] rfl rfl rfl rfl (by decide) rfl rfl mw_2 mw_3 mw_4 mw_5 mw_6 (by decide +kernel) ⟨Nat.le_of_ble_eq_true rfl, Nat.le_of_ble_eq_true rfl⟩ ⟨rfl, rfl⟩ rfl hl.1 (Nat.le_of_ble_eq_true rfl) rfl dX8_feed_6 ⟨Nat.zero_le _, Nat.zero_le _⟩ (fun r f1 H locs er hP hD hS => ?_)
  have hP : va_P (dC, dI) vwCl [((g 0), .inr (8, [.ref (g 1), .ref (g 2), .ref (g 4), .ref (g 16), .ref (g 64), .ref (g 65), .ref (g 66), .ref (g 70), .ref (g 75), .ref (g 87), .ref (g 94), .int 0, .int 0, .int 0])), ((g 3), .inl ((a 3), 500, .inl (fun _ => 0))), ((g 2), .inr (7, [.ref (g 3), .int 0]))] H := hP
  have hD : va_D A [((g 0), .inr (8, [.ref (g 1), .ref (g 2), .ref (g 4), .ref (g 16), .ref (g 64), .ref (g 65), .ref (g 66), .ref (g 70), .ref (g 75), .ref (g 87), .ref (g 94), .int 0, .int 0, .int 0])), ((g 3), .inl ((a 3), 500, .inl (fun _ => 0))), ((g 2), .inr (7, [.ref (g 3), .int 0]))] := hD
  have er : r = 1 := er
  subst er
  refine lv_if_ne (tgt := 14) hx hb dX8_feed_9 (by decide) (fun c2 => ?_) (fun c2 => ?_)
  · refine lv_aload_n hx hb dX8_feed_14 rfl (lv_at hl 0 rfl) ?_
    refine va_get (D := (dC, dI)) (ci := 8) (v := .ref (g 2)) (C := RX8) (T := TX8) (N := 14) hx hb hT inT8 hown hK hP 0 rfl rfl 1 (by decide) (hT _ mw_0) (fun _ h9 => h9) rfl dX8_feed_15 ?_
    refine lv_iload_n hx hb dX8_feed_18 rfl (lv_at hl 1 rfl) ?_
    refine c_Vv (C := RX7) (As := [.int p0]) (rest := []) (wr := [((g 0), .inr (8, [.ref (g 1), .ref (g 2), .ref (g 4), .ref (g 16), .ref (g 64), .ref (g 65), .ref (g 66), .ref (g 70), .ref (g 75), .ref (g 87), .ref (g 94), .int 0, .int 0, .int 0]))]) (n := 1) ⟨hx, hb, hml, hown, hT⟩ (k_X7_putNumber l dC dI g a p0) hK hP hD hS hA [0] rfl [2, 1] [0] rfl rfl rfl rfl (by decide) rfl rfl mw_9 mw_10 mw_11 mw_5 mw_12 (by decide +kernel) ⟨Nat.le_of_ble_eq_true rfl, Nat.le_of_ble_eq_true rfl⟩ ⟨rfl, rfl⟩ rfl hl.1 (Nat.le_of_ble_eq_true rfl) rfl dX8_feed_19 ⟨Nat.zero_le _, Nat.zero_le _⟩ (fun f3 H locs hP hD hS => ?_)
    have hP : va_P (dC, dI) vwCl [((g 0), .inr (8, [.ref (g 1), .ref (g 2), .ref (g 4), .ref (g 16), .ref (g 64), .ref (g 65), .ref (g 66), .ref (g 70), .ref (g 75), .ref (g 87), .ref (g 94), .int 0, .int 0, .int 0])), ((g 2), .inr (7, [.ref (g 3), .int 4])), ((g 3), .inl ((a 3), 500, .inl f3))] H := hP
    have hD : va_D A [((g 0), .inr (8, [.ref (g 1), .ref (g 2), .ref (g 4), .ref (g 16), .ref (g 64), .ref (g 65), .ref (g 66), .ref (g 70), .ref (g 75), .ref (g 87), .ref (g 94), .int 0, .int 0, .int 0])), ((g 2), .inr (7, [.ref (g 3), .int 4])), ((g 3), .inl ((a 3), 500, .inl f3))] := hD
    refine lv_aload_n hx hb dX8_feed_22 rfl (lv_at hl 0 rfl) ?_
    refine va_get (D := (dC, dI)) (ci := 8) (v := .ref (g 2)) (C := RX8) (T := TX8) (N := 14) hx hb hT inT8 hown hK hP 0 rfl rfl 1 (by decide) (hT _ mw_0) (fun _ h9 => h9) rfl dX8_feed_23 ?_
    refine lv_iload_n hx hb dX8_feed_26 rfl (lv_at hl 2 rfl) ?_
    refine c_Vv (C := RX7) (As := [.int p1]) (rest := []) (wr := [((g 0), .inr (8, [.ref (g 1), .ref (g 2), .ref (g 4), .ref (g 16), .ref (g 64), .ref (g 65), .ref (g 66), .ref (g 70), .ref (g 75), .ref (g 87), .ref (g 94), .int 0, .int 0, .int 0]))]) (n := 1) ⟨hx, hb, hml, hown, hT⟩ (k_X7_putNumber_2 l dC dI g a f3 p1) hK hP hD hS hA [0] rfl [1, 2] [0] rfl rfl rfl rfl (by decide) rfl rfl mw_9 mw_10 mw_11 mw_5 mw_12 (by decide +kernel) ⟨Nat.le_of_ble_eq_true rfl, Nat.le_of_ble_eq_true rfl⟩ ⟨rfl, rfl⟩ rfl hl.1 (Nat.le_of_ble_eq_true rfl) rfl dX8_feed_27 ⟨Nat.zero_le _, Nat.zero_le _⟩ (fun f4 H locs hP hD hS => ?_)
    have hP : va_P (dC, dI) vwCl [((g 0), .inr (8, [.ref (g 1), .ref (g 2), .ref (g 4), .ref (g 16), .ref (g 64), .ref (g 65), .ref (g 66), .ref (g 70), .ref (g 75), .ref (g 87), .ref (g 94), .int 0, .int 0, .int 0])), ((g 2), .inr (7, [.ref (g 3), .int 8])), ((g 3), .inl ((a 3), 500, .inl f4))] H := hP
    have hD : va_D A [((g 0), .inr (8, [.ref (g 1), .ref (g 2), .ref (g 4), .ref (g 16), .ref (g 64), .ref (g 65), .ref (g 66), .ref (g 70), .ref (g 75), .ref (g 87), .ref (g 94), .int 0, .int 0, .int 0])), ((g 2), .inr (7, [.ref (g 3), .int 8])), ((g 3), .inl ((a 3), 500, .inl f4))] := hD
    refine lv_aload_n hx hb dX8_feed_30 rfl (lv_at hl 0 rfl) ?_
    refine va_get (D := (dC, dI)) (ci := 8) (v := .ref (g 2)) (C := RX8) (T := TX8) (N := 14) hx hb hT inT8 hown hK hP 0 rfl rfl 1 (by decide) (hT _ mw_0) (fun _ h9 => h9) rfl dX8_feed_31 ?_
    refine lv_iload_n hx hb dX8_feed_34 rfl (lv_at hl 3 rfl) ?_
    refine c_Vv (C := RX7) (As := [.int p2]) (rest := []) (wr := [((g 0), .inr (8, [.ref (g 1), .ref (g 2), .ref (g 4), .ref (g 16), .ref (g 64), .ref (g 65), .ref (g 66), .ref (g 70), .ref (g 75), .ref (g 87), .ref (g 94), .int 0, .int 0, .int 0]))]) (n := 1) ⟨hx, hb, hml, hown, hT⟩ (k_X7_putNumber_3 l dC dI g a f4 p2) hK hP hD hS hA [0] rfl [1, 2] [0] rfl rfl rfl rfl (by decide) rfl rfl mw_9 mw_10 mw_11 mw_5 mw_12 (by decide +kernel) ⟨Nat.le_of_ble_eq_true rfl, Nat.le_of_ble_eq_true rfl⟩ ⟨rfl, rfl⟩ rfl hl.1 (Nat.le_of_ble_eq_true rfl) rfl dX8_feed_35 ⟨Nat.zero_le _, Nat.zero_le _⟩ (fun f5 H locs hP hD hS => ?_)
    have hP : va_P (dC, dI) vwCl [((g 0), .inr (8, [.ref (g 1), .ref (g 2), .ref (g 4), .ref (g 16), .ref (g 64), .ref (g 65), .ref (g 66), .ref (g 70), .ref (g 75), .ref (g 87), .ref (g 94), .int 0, .int 0, .int 0])), ((g 2), .inr (7, [.ref (g 3), .int 12])), ((g 3), .inl ((a 3), 500, .inl f5))] H := hP
    have hD : va_D A [((g 0), .inr (8, [.ref (g 1), .ref (g 2), .ref (g 4), .ref (g 16), .ref (g 64), .ref (g 65), .ref (g 66), .ref (g 70), .ref (g 75), .ref (g 87), .ref (g 94), .int 0, .int 0, .int 0])), ((g 2), .inr (7, [.ref (g 3), .int 12])), ((g 3), .inl ((a 3), 500, .inl f5))] := hD
    refine lv_aload_n hx hb dX8_feed_38 rfl (lv_at hl 0 rfl) ?_
    refine va_get (D := (dC, dI)) (ci := 8) (v := .ref (g 2)) (C := RX8) (T := TX8) (N := 14) hx hb hT inT8 hown hK hP 0 rfl rfl 1 (by decide) (hT _ mw_0) (fun _ h9 => h9) rfl dX8_feed_39 ?_
    refine lv_iload hx hb dX8_feed_42 (lv_at hl 4 rfl) ?_
    refine c_Vv (C := RX7) (As := [.int p3]) (rest := []) (wr := [((g 0), .inr (8, [.ref (g 1), .ref (g 2), .ref (g 4), .ref (g 16), .ref (g 64), .ref (g 65), .ref (g 66), .ref (g 70), .ref (g 75), .ref (g 87), .ref (g 94), .int 0, .int 0, .int 0]))]) (n := 1) ⟨hx, hb, hml, hown, hT⟩ (k_X7_putNumber_4 l dC dI g a f5 p3) hK hP hD hS hA [0] rfl [1, 2] [0] rfl rfl rfl rfl (by decide) rfl rfl mw_9 mw_10 mw_11 mw_5 mw_12 (by decide +kernel) ⟨Nat.le_of_ble_eq_true rfl, Nat.le_of_ble_eq_true rfl⟩ ⟨rfl, rfl⟩ rfl hl.1 (Nat.le_of_ble_eq_true rfl) rfl dX8_feed_44 ⟨Nat.zero_le _, Nat.zero_le _⟩ (fun f6 H locs hP hD hS => ?_)
    have hP : va_P (dC, dI) vwCl [((g 0), .inr (8, [.ref (g 1), .ref (g 2), .ref (g 4), .ref (g 16), .ref (g 64), .ref (g 65), .ref (g 66), .ref (g 70), .ref (g 75), .ref (g 87), .ref (g 94), .int 0, .int 0, .int 0])), ((g 2), .inr (7, [.ref (g 3), .int 16])), ((g 3), .inl ((a 3), 500, .inl f6))] H := hP
    have hD : va_D A [((g 0), .inr (8, [.ref (g 1), .ref (g 2), .ref (g 4), .ref (g 16), .ref (g 64), .ref (g 65), .ref (g 66), .ref (g 70), .ref (g 75), .ref (g 87), .ref (g 94), .int 0, .int 0, .int 0])), ((g 2), .inr (7, [.ref (g 3), .int 16])), ((g 3), .inl ((a 3), 500, .inl f6))] := hD
    refine lv_aload_n hx hb dX8_feed_47 rfl (lv_at hl 0 rfl) ?_
    refine va_get (D := (dC, dI)) (ci := 8) (v := .ref (g 2)) (C := RX8) (T := TX8) (N := 14) hx hb hT inT8 hown hK hP 0 rfl rfl 1 (by decide) (hT _ mw_0) (fun _ h9 => h9) rfl dX8_feed_48 ?_
    refine lv_iload hx hb dX8_feed_51 (lv_at hl 5 rfl) ?_
    refine c_Vv (C := RX7) (As := [.int p4]) (rest := []) (wr := [((g 0), .inr (8, [.ref (g 1), .ref (g 2), .ref (g 4), .ref (g 16), .ref (g 64), .ref (g 65), .ref (g 66), .ref (g 70), .ref (g 75), .ref (g 87), .ref (g 94), .int 0, .int 0, .int 0]))]) (n := 1) ⟨hx, hb, hml, hown, hT⟩ (k_X7_putNumber_5 l dC dI g a f6 p4) hK hP hD hS hA [0] rfl [1, 2] [0] rfl rfl rfl rfl (by decide) rfl rfl mw_9 mw_10 mw_11 mw_5 mw_12 (by decide +kernel) ⟨Nat.le_of_ble_eq_true rfl, Nat.le_of_ble_eq_true rfl⟩ ⟨rfl, rfl⟩ rfl hl.1 (Nat.le_of_ble_eq_true rfl) rfl dX8_feed_53 ⟨Nat.zero_le _, Nat.zero_le _⟩ (fun f7 H locs hP hD hS => ?_)
    have hP : va_P (dC, dI) vwCl [((g 0), .inr (8, [.ref (g 1), .ref (g 2), .ref (g 4), .ref (g 16), .ref (g 64), .ref (g 65), .ref (g 66), .ref (g 70), .ref (g 75), .ref (g 87), .ref (g 94), .int 0, .int 0, .int 0])), ((g 2), .inr (7, [.ref (g 3), .int 20])), ((g 3), .inl ((a 3), 500, .inl f7))] H := hP
    have hD : va_D A [((g 0), .inr (8, [.ref (g 1), .ref (g 2), .ref (g 4), .ref (g 16), .ref (g 64), .ref (g 65), .ref (g 66), .ref (g 70), .ref (g 75), .ref (g 87), .ref (g 94), .int 0, .int 0, .int 0])), ((g 2), .inr (7, [.ref (g 3), .int 20])), ((g 3), .inl ((a 3), 500, .inl f7))] := hD
    refine lv_aload_n hx hb dX8_feed_56 rfl (lv_at hl 0 rfl) ?_
    refine va_get (D := (dC, dI)) (ci := 8) (v := .ref (g 2)) (C := RX8) (T := TX8) (N := 14) hx hb hT inT8 hown hK hP 0 rfl rfl 1 (by decide) (hT _ mw_0) (fun _ h9 => h9) rfl dX8_feed_57 ?_
    refine va_get (D := (dC, dI)) (ci := 7) (v := .int 20) (C := RX7) (T := TX7) (N := 2) hx hb hT inT7 hown hK hP 1 rfl rfl 1 (by decide) (hT _ mw_13) (fun _ h9 => h9) rfl dX8_feed_60 ?_
    exact e_i hx hb hr hlocks hP hD hS (fun _ => 0) [] rfl rfl rfl dX8_feed_63
  · exact absurd c2 (by decide)
set_option maxRecDepth 100000 in
set_option maxHeartbeats 4000000 in
theorem k_X9_feed (l : Launch) (dC : Nat → ClassId) (dI : Nat → Nat → Nat) (g : Nat → Nat) (a : Nat → ClassId) (p0 : Int32) (p1 : Int32) (p2 : Int32) (p3 : Int32) (p4 : Int32)  : MI l dC dI yX9_feed (Cond.code yX9_feed cX9_feed 7 (some .int)) ({ frames := 0, cells := 0, slots := 0, locals := 0 }) [.ref (g 0), .int p0, .int p1, .int p2, .int p3, .int p4] [((a 6), .int), ((a 4), .byte)] [((g 0), .inr (9, oM g 0 0 0 0 0 0 (-1))), ((g 6), .inl ((a 6), 5, .inl (fun _ => 0))), ((g 4), .inl ((a 4), 500, .inl (fun _ => 0)))] (fun r : Int32 => r = 20) (fun f => []) := by
  refine m_of (Qc := fun A => QI dC dI A (fun r : Int32 => r = 20) (fun f => [])) (lv := [(0, .ref (g 0)), (1, .int p0), (2, .int p1), (3, .int p2), (4, .int p3), (5, .int p4)]) (by decide) (Nat.le_of_ble_eq_true rfl) rfl ?_
  intro p e s m below meth c A ls hx hb hr hml hT hown hlocks hname hP hK hD hS hA hl
  have hown : s.vm.findClass RX9 = some m.cls := hown
  refine lv_aload_n hx hb dX9_feed_0 rfl (lv_at hl 0 rfl) ?_
  refine va_get (D := (dC, dI)) (ci := 9) (v := .int 0) (C := RX9) (T := TX9) (N := 61) hx hb hT inT9 hown hK hP 0 rfl rfl 5 (by decide) (hT _ mw_14) (fun _ h9 => h9) rfl dX9_feed_1 ?_
  refine lv_bipush (v := 20) hx hb dX9_feed_4 (by decide) ?_
  refine lv_iadd hx hb dX9_feed_6 ?_
  refine t_i 20 (by decide) ?_
  refine lv_sipush (v := 500) hx hb dX9_feed_7 (by decide) ?_
  refine lv_icmp_le (tgt := 15) hx hb dX9_feed_10 (by decide) (fun c1 => ?_) (fun c1 => ?_)
  · refine lv_aload_n hx hb dX9_feed_15 rfl (lv_at hl 0 rfl) ?_
    refine va_get (D := (dC, dI)) (ci := 9) (v := .ref (g 6)) (C := RX9) (T := TX9) (N := 61) hx hb hT inT9 hown hK hP 0 rfl rfl 6 (by decide) (hT _ mw_15) (fun _ h9 => h9) rfl dX9_feed_16 ?_
    refine lv_iconst (v := 0) hx hb dX9_feed_19 (by decide) ?_
    refine lv_iload_n hx hb dX9_feed_20 rfl (lv_at hl 1 rfl) ?_
    refine va_iast hx hb hK hP hD hS 1 0 rfl rfl (by unfold vp_in; decide) dX9_feed_21 (fun H locs hP hD hS => ?_)
    have hP : va_P (dC, dI) vwCl [((g 0), .inr (9, oM g 0 0 0 0 0 0 (-1))), ((g 6), .inl ((a 6), 5, .inl (upd (fun _ => 0) (0 : Int32).toNatClampNeg p0))), ((g 4), .inl ((a 4), 500, .inl (fun _ => 0)))] H := hP
    have hD : va_D A [((g 0), .inr (9, oM g 0 0 0 0 0 0 (-1))), ((g 6), .inl ((a 6), 5, .inl (upd (fun _ => 0) (0 : Int32).toNatClampNeg p0))), ((g 4), .inl ((a 4), 500, .inl (fun _ => 0)))] := hD
    generalize (upd (fun _ => 0) (0 : Int32).toNatClampNeg p0) = f2 at hP hD
    refine lv_aload_n hx hb dX9_feed_22 rfl (lv_at hl 0 rfl) ?_
    refine va_get (D := (dC, dI)) (ci := 9) (v := .ref (g 6)) (C := RX9) (T := TX9) (N := 61) hx hb hT inT9 hown hK hP 0 rfl rfl 6 (by decide) (hT _ mw_15) (fun _ h9 => h9) rfl dX9_feed_23 ?_
    refine lv_iconst (v := 1) hx hb dX9_feed_26 (by decide) ?_
    refine lv_iload_n hx hb dX9_feed_27 rfl (lv_at hl 2 rfl) ?_
    refine va_iast hx hb hK hP hD hS 1 0 rfl rfl (by unfold vp_in; decide) dX9_feed_28 (fun H locs hP hD hS => ?_)
    have hP : va_P (dC, dI) vwCl [((g 0), .inr (9, oM g 0 0 0 0 0 0 (-1))), ((g 6), .inl ((a 6), 5, .inl (upd f2 (1 : Int32).toNatClampNeg p1))), ((g 4), .inl ((a 4), 500, .inl (fun _ => 0)))] H := hP
    have hD : va_D A [((g 0), .inr (9, oM g 0 0 0 0 0 0 (-1))), ((g 6), .inl ((a 6), 5, .inl (upd f2 (1 : Int32).toNatClampNeg p1))), ((g 4), .inl ((a 4), 500, .inl (fun _ => 0)))] := hD
    generalize (upd f2 (1 : Int32).toNatClampNeg p1) = f3 at hP hD
    refine lv_aload_n hx hb dX9_feed_29 rfl (lv_at hl 0 rfl) ?_
    refine va_get (D := (dC, dI)) (ci := 9) (v := .ref (g 6)) (C := RX9) (T := TX9) (N := 61) hx hb hT inT9 hown hK hP 0 rfl rfl 6 (by decide) (hT _ mw_15) (fun _ h9 => h9) rfl dX9_feed_30 ?_
    refine lv_iconst (v := 2) hx hb dX9_feed_33 (by decide) ?_
    refine lv_iload_n hx hb dX9_feed_34 rfl (lv_at hl 3 rfl) ?_
    refine va_iast hx hb hK hP hD hS 1 0 rfl rfl (by unfold vp_in; decide) dX9_feed_35 (fun H locs hP hD hS => ?_)
    have hP : va_P (dC, dI) vwCl [((g 0), .inr (9, oM g 0 0 0 0 0 0 (-1))), ((g 6), .inl ((a 6), 5, .inl (upd f3 (2 : Int32).toNatClampNeg p2))), ((g 4), .inl ((a 4), 500, .inl (fun _ => 0)))] H := hP
    have hD : va_D A [((g 0), .inr (9, oM g 0 0 0 0 0 0 (-1))), ((g 6), .inl ((a 6), 5, .inl (upd f3 (2 : Int32).toNatClampNeg p2))), ((g 4), .inl ((a 4), 500, .inl (fun _ => 0)))] := hD
    generalize (upd f3 (2 : Int32).toNatClampNeg p2) = f4 at hP hD
    refine lv_aload_n hx hb dX9_feed_36 rfl (lv_at hl 0 rfl) ?_
    refine va_get (D := (dC, dI)) (ci := 9) (v := .ref (g 6)) (C := RX9) (T := TX9) (N := 61) hx hb hT inT9 hown hK hP 0 rfl rfl 6 (by decide) (hT _ mw_15) (fun _ h9 => h9) rfl dX9_feed_37 ?_
    refine lv_iconst (v := 3) hx hb dX9_feed_40 (by decide) ?_
    refine lv_iload hx hb dX9_feed_41 (lv_at hl 4 rfl) ?_
    refine va_iast hx hb hK hP hD hS 1 0 rfl rfl (by unfold vp_in; decide) dX9_feed_43 (fun H locs hP hD hS => ?_)
    have hP : va_P (dC, dI) vwCl [((g 0), .inr (9, oM g 0 0 0 0 0 0 (-1))), ((g 6), .inl ((a 6), 5, .inl (upd f4 (3 : Int32).toNatClampNeg p3))), ((g 4), .inl ((a 4), 500, .inl (fun _ => 0)))] H := hP
    have hD : va_D A [((g 0), .inr (9, oM g 0 0 0 0 0 0 (-1))), ((g 6), .inl ((a 6), 5, .inl (upd f4 (3 : Int32).toNatClampNeg p3))), ((g 4), .inl ((a 4), 500, .inl (fun _ => 0)))] := hD
    generalize (upd f4 (3 : Int32).toNatClampNeg p3) = f5 at hP hD
    refine lv_aload_n hx hb dX9_feed_44 rfl (lv_at hl 0 rfl) ?_
    refine va_get (D := (dC, dI)) (ci := 9) (v := .ref (g 6)) (C := RX9) (T := TX9) (N := 61) hx hb hT inT9 hown hK hP 0 rfl rfl 6 (by decide) (hT _ mw_15) (fun _ h9 => h9) rfl dX9_feed_45 ?_
    refine lv_iconst (v := 4) hx hb dX9_feed_48 (by decide) ?_
    refine lv_iload hx hb dX9_feed_49 (lv_at hl 5 rfl) ?_
    refine va_iast hx hb hK hP hD hS 1 0 rfl rfl (by unfold vp_in; decide) dX9_feed_51 (fun H locs hP hD hS => ?_)
    have hP : va_P (dC, dI) vwCl [((g 0), .inr (9, oM g 0 0 0 0 0 0 (-1))), ((g 6), .inl ((a 6), 5, .inl (upd f5 (4 : Int32).toNatClampNeg p4))), ((g 4), .inl ((a 4), 500, .inl (fun _ => 0)))] H := hP
    have hD : va_D A [((g 0), .inr (9, oM g 0 0 0 0 0 0 (-1))), ((g 6), .inl ((a 6), 5, .inl (upd f5 (4 : Int32).toNatClampNeg p4))), ((g 4), .inl ((a 4), 500, .inl (fun _ => 0)))] := hD
    generalize (upd f5 (4 : Int32).toNatClampNeg p4) = f6 at hP hD
    refine lv_iconst (v := 0) hx hb dX9_feed_52 (by decide) ?_
    refine lv_istore (lv' := [(6, .int 0), (0, .ref (g 0)), (1, .int p0), (2, .int p1), (3, .int p2), (4, .int p3), (5, .int p4)]) hx hb dX9_feed_53 hl (by decide) rfl (fun ls hl => ?_)
    refine lv_iload hx hb dX9_feed_55 (lv_at hl 0 rfl) ?_
    refine lv_bipush (v := 20) hx hb dX9_feed_57 (by decide) ?_
    refine lv_icmp_ge (tgt := 101) hx hb dX9_feed_59 (by decide) (fun c7 => ?_) (fun c7 => ?_)
    · exact absurd c7 (by decide)
    · refine lv_aload_n hx hb dX9_feed_62 rfl (lv_at hl 1 rfl) ?_
      refine va_get (D := (dC, dI)) (ci := 9) (v := .ref (g 4)) (C := RX9) (T := TX9) (N := 61) hx hb hT inT9 hown hK hP 0 rfl rfl 4 (by decide) (hT _ mw_16) (fun _ h9 => h9) rfl dX9_feed_63 ?_
      refine lv_aload_n hx hb dX9_feed_66 rfl (lv_at hl 1 rfl) ?_
      refine va_get (D := (dC, dI)) (ci := 9) (v := .int 0) (C := RX9) (T := TX9) (N := 61) hx hb hT inT9 hown hK hP 0 rfl rfl 5 (by decide) (hT _ mw_14) (fun _ h9 => h9) rfl dX9_feed_67 ?_
      refine lv_iload hx hb dX9_feed_70 (lv_at hl 0 rfl) ?_
      refine lv_iadd hx hb dX9_feed_72 ?_
      refine t_i 0 (by decide) ?_
      refine lv_aload_n hx hb dX9_feed_73 rfl (lv_at hl 1 rfl) ?_
      refine va_get (D := (dC, dI)) (ci := 9) (v := .ref (g 6)) (C := RX9) (T := TX9) (N := 61) hx hb hT inT9 hown hK hP 0 rfl rfl 6 (by decide) (hT _ mw_15) (fun _ h9 => h9) rfl dX9_feed_74 ?_
      refine lv_iload hx hb dX9_feed_77 (lv_at hl 0 rfl) ?_
      refine lv_iconst (v := 4) hx hb dX9_feed_79 (by decide) ?_
      refine lv_idiv hx hb dX9_feed_80 (by decide) ?_
      refine t_i 0 (by decide) ?_
      refine va_iald hx hb hK hP 1 0 rfl rfl (by unfold vp_in; decide) dX9_feed_81 ?_
      refine lv_topi (fun z8 _ => ?_)
      refine lv_bipush (v := 24) hx hb dX9_feed_82 (by decide) ?_
      refine lv_bipush (v := 8) hx hb dX9_feed_84 (by decide) ?_
      refine lv_iload hx hb dX9_feed_86 (lv_at hl 0 rfl) ?_
      refine lv_iconst (v := 4) hx hb dX9_feed_88 (by decide) ?_
      refine lv_irem hx hb dX9_feed_89 (by decide) ?_
      refine t_i 0 (by decide) ?_
      refine lv_imul hx hb dX9_feed_90 ?_
      refine t_i 0 (by decide) ?_
      refine lv_isub hx hb dX9_feed_91 ?_
      refine t_i 24 (by decide) ?_
      refine lv_ishr hx hb dX9_feed_92 ?_
      refine lv_topi (fun z9 _ => ?_)
      refine lv_i2b hx hb dX9_feed_93 rfl ?_
      refine lv_topi (fun z10 _ => ?_)
      refine va_bast hx hb hK hP hD hS 2 1 rfl rfl (by unfold vp_in; decide) dX9_feed_94 (fun H locs hP hD hS => ?_)
      have hP : va_P (dC, dI) vwCl [((g 0), .inr (9, oM g 0 0 0 0 0 0 (-1))), ((g 6), .inl ((a 6), 5, .inl f6)), ((g 4), .inl ((a 4), 500, .inl (upd (fun _ => 0) (0 : Int32).toNatClampNeg (vp_nar .byte z10))))] H := hP
      have hD : va_D A [((g 0), .inr (9, oM g 0 0 0 0 0 0 (-1))), ((g 6), .inl ((a 6), 5, .inl f6)), ((g 4), .inl ((a 4), 500, .inl (upd (fun _ => 0) (0 : Int32).toNatClampNeg (vp_nar .byte z10))))] := hD
      generalize (upd (fun _ => 0) (0 : Int32).toNatClampNeg (vp_nar .byte z10)) = f11 at hP hD
      refine lv_iinc (v := 1) (lv' := [(6, .int 1), (0, .ref (g 0)), (1, .int p0), (2, .int p1), (3, .int p2), (4, .int p3), (5, .int p4)]) hx hb dX9_feed_95 hl (k := 0) rfl (by decide) (by decide) rfl (fun ls hl => ?_)
      refine lv_goto (tgt := 55) hx hb dX9_feed_98 (by decide) ?_
      refine lv_iload hx hb dX9_feed_55 (lv_at hl 0 rfl) ?_
      refine lv_bipush (v := 20) hx hb dX9_feed_57 (by decide) ?_
      refine lv_icmp_ge (tgt := 101) hx hb dX9_feed_59 (by decide) (fun c12 => ?_) (fun c12 => ?_)
      · exact absurd c12 (by decide)
      · refine lv_aload_n hx hb dX9_feed_62 rfl (lv_at hl 1 rfl) ?_
        refine va_get (D := (dC, dI)) (ci := 9) (v := .ref (g 4)) (C := RX9) (T := TX9) (N := 61) hx hb hT inT9 hown hK hP 0 rfl rfl 4 (by decide) (hT _ mw_16) (fun _ h9 => h9) rfl dX9_feed_63 ?_
        refine lv_aload_n hx hb dX9_feed_66 rfl (lv_at hl 1 rfl) ?_
        refine va_get (D := (dC, dI)) (ci := 9) (v := .int 0) (C := RX9) (T := TX9) (N := 61) hx hb hT inT9 hown hK hP 0 rfl rfl 5 (by decide) (hT _ mw_14) (fun _ h9 => h9) rfl dX9_feed_67 ?_
        refine lv_iload hx hb dX9_feed_70 (lv_at hl 0 rfl) ?_
        refine lv_iadd hx hb dX9_feed_72 ?_
        refine t_i 1 (by decide) ?_
        refine lv_aload_n hx hb dX9_feed_73 rfl (lv_at hl 1 rfl) ?_
        refine va_get (D := (dC, dI)) (ci := 9) (v := .ref (g 6)) (C := RX9) (T := TX9) (N := 61) hx hb hT inT9 hown hK hP 0 rfl rfl 6 (by decide) (hT _ mw_15) (fun _ h9 => h9) rfl dX9_feed_74 ?_
        refine lv_iload hx hb dX9_feed_77 (lv_at hl 0 rfl) ?_
        refine lv_iconst (v := 4) hx hb dX9_feed_79 (by decide) ?_
        refine lv_idiv hx hb dX9_feed_80 (by decide) ?_
        refine t_i 0 (by decide) ?_
        refine va_iald hx hb hK hP 1 0 rfl rfl (by unfold vp_in; decide) dX9_feed_81 ?_
        refine lv_topi (fun z13 _ => ?_)
        refine lv_bipush (v := 24) hx hb dX9_feed_82 (by decide) ?_
        refine lv_bipush (v := 8) hx hb dX9_feed_84 (by decide) ?_
        refine lv_iload hx hb dX9_feed_86 (lv_at hl 0 rfl) ?_
        refine lv_iconst (v := 4) hx hb dX9_feed_88 (by decide) ?_
        refine lv_irem hx hb dX9_feed_89 (by decide) ?_
        refine t_i 1 (by decide) ?_
        refine lv_imul hx hb dX9_feed_90 ?_
        refine t_i 8 (by decide) ?_
        refine lv_isub hx hb dX9_feed_91 ?_
        refine t_i 16 (by decide) ?_
        refine lv_ishr hx hb dX9_feed_92 ?_
        refine lv_topi (fun z14 _ => ?_)
        refine lv_i2b hx hb dX9_feed_93 rfl ?_
        refine lv_topi (fun z15 _ => ?_)
        refine va_bast hx hb hK hP hD hS 2 1 rfl rfl (by unfold vp_in; decide) dX9_feed_94 (fun H locs hP hD hS => ?_)
        have hP : va_P (dC, dI) vwCl [((g 0), .inr (9, oM g 0 0 0 0 0 0 (-1))), ((g 6), .inl ((a 6), 5, .inl f6)), ((g 4), .inl ((a 4), 500, .inl (upd f11 (1 : Int32).toNatClampNeg (vp_nar .byte z15))))] H := hP
        have hD : va_D A [((g 0), .inr (9, oM g 0 0 0 0 0 0 (-1))), ((g 6), .inl ((a 6), 5, .inl f6)), ((g 4), .inl ((a 4), 500, .inl (upd f11 (1 : Int32).toNatClampNeg (vp_nar .byte z15))))] := hD
        generalize (upd f11 (1 : Int32).toNatClampNeg (vp_nar .byte z15)) = f16 at hP hD
        refine lv_iinc (v := 2) (lv' := [(6, .int 2), (0, .ref (g 0)), (1, .int p0), (2, .int p1), (3, .int p2), (4, .int p3), (5, .int p4)]) hx hb dX9_feed_95 hl (k := 0) rfl (by decide) (by decide) rfl (fun ls hl => ?_)
        refine lv_goto (tgt := 55) hx hb dX9_feed_98 (by decide) ?_
        refine lv_iload hx hb dX9_feed_55 (lv_at hl 0 rfl) ?_
        refine lv_bipush (v := 20) hx hb dX9_feed_57 (by decide) ?_
        refine lv_icmp_ge (tgt := 101) hx hb dX9_feed_59 (by decide) (fun c17 => ?_) (fun c17 => ?_)
        · exact absurd c17 (by decide)
        · refine lv_aload_n hx hb dX9_feed_62 rfl (lv_at hl 1 rfl) ?_
          refine va_get (D := (dC, dI)) (ci := 9) (v := .ref (g 4)) (C := RX9) (T := TX9) (N := 61) hx hb hT inT9 hown hK hP 0 rfl rfl 4 (by decide) (hT _ mw_16) (fun _ h9 => h9) rfl dX9_feed_63 ?_
          refine lv_aload_n hx hb dX9_feed_66 rfl (lv_at hl 1 rfl) ?_
          refine va_get (D := (dC, dI)) (ci := 9) (v := .int 0) (C := RX9) (T := TX9) (N := 61) hx hb hT inT9 hown hK hP 0 rfl rfl 5 (by decide) (hT _ mw_14) (fun _ h9 => h9) rfl dX9_feed_67 ?_
          refine lv_iload hx hb dX9_feed_70 (lv_at hl 0 rfl) ?_
          refine lv_iadd hx hb dX9_feed_72 ?_
          refine t_i 2 (by decide) ?_
          refine lv_aload_n hx hb dX9_feed_73 rfl (lv_at hl 1 rfl) ?_
          refine va_get (D := (dC, dI)) (ci := 9) (v := .ref (g 6)) (C := RX9) (T := TX9) (N := 61) hx hb hT inT9 hown hK hP 0 rfl rfl 6 (by decide) (hT _ mw_15) (fun _ h9 => h9) rfl dX9_feed_74 ?_
          refine lv_iload hx hb dX9_feed_77 (lv_at hl 0 rfl) ?_
          refine lv_iconst (v := 4) hx hb dX9_feed_79 (by decide) ?_
          refine lv_idiv hx hb dX9_feed_80 (by decide) ?_
          refine t_i 0 (by decide) ?_
          refine va_iald hx hb hK hP 1 0 rfl rfl (by unfold vp_in; decide) dX9_feed_81 ?_
          refine lv_topi (fun z18 _ => ?_)
          refine lv_bipush (v := 24) hx hb dX9_feed_82 (by decide) ?_
          refine lv_bipush (v := 8) hx hb dX9_feed_84 (by decide) ?_
          refine lv_iload hx hb dX9_feed_86 (lv_at hl 0 rfl) ?_
          refine lv_iconst (v := 4) hx hb dX9_feed_88 (by decide) ?_
          refine lv_irem hx hb dX9_feed_89 (by decide) ?_
          refine t_i 2 (by decide) ?_
          refine lv_imul hx hb dX9_feed_90 ?_
          refine t_i 16 (by decide) ?_
          refine lv_isub hx hb dX9_feed_91 ?_
          refine t_i 8 (by decide) ?_
          refine lv_ishr hx hb dX9_feed_92 ?_
          refine lv_topi (fun z19 _ => ?_)
          refine lv_i2b hx hb dX9_feed_93 rfl ?_
          refine lv_topi (fun z20 _ => ?_)
          refine va_bast hx hb hK hP hD hS 2 1 rfl rfl (by unfold vp_in; decide) dX9_feed_94 (fun H locs hP hD hS => ?_)
          have hP : va_P (dC, dI) vwCl [((g 0), .inr (9, oM g 0 0 0 0 0 0 (-1))), ((g 6), .inl ((a 6), 5, .inl f6)), ((g 4), .inl ((a 4), 500, .inl (upd f16 (2 : Int32).toNatClampNeg (vp_nar .byte z20))))] H := hP
          have hD : va_D A [((g 0), .inr (9, oM g 0 0 0 0 0 0 (-1))), ((g 6), .inl ((a 6), 5, .inl f6)), ((g 4), .inl ((a 4), 500, .inl (upd f16 (2 : Int32).toNatClampNeg (vp_nar .byte z20))))] := hD
          generalize (upd f16 (2 : Int32).toNatClampNeg (vp_nar .byte z20)) = f21 at hP hD
          refine lv_iinc (v := 3) (lv' := [(6, .int 3), (0, .ref (g 0)), (1, .int p0), (2, .int p1), (3, .int p2), (4, .int p3), (5, .int p4)]) hx hb dX9_feed_95 hl (k := 0) rfl (by decide) (by decide) rfl (fun ls hl => ?_)
          refine lv_goto (tgt := 55) hx hb dX9_feed_98 (by decide) ?_
          refine lv_iload hx hb dX9_feed_55 (lv_at hl 0 rfl) ?_
          refine lv_bipush (v := 20) hx hb dX9_feed_57 (by decide) ?_
          refine lv_icmp_ge (tgt := 101) hx hb dX9_feed_59 (by decide) (fun c22 => ?_) (fun c22 => ?_)
          · exact absurd c22 (by decide)
          · refine lv_aload_n hx hb dX9_feed_62 rfl (lv_at hl 1 rfl) ?_
            refine va_get (D := (dC, dI)) (ci := 9) (v := .ref (g 4)) (C := RX9) (T := TX9) (N := 61) hx hb hT inT9 hown hK hP 0 rfl rfl 4 (by decide) (hT _ mw_16) (fun _ h9 => h9) rfl dX9_feed_63 ?_
            refine lv_aload_n hx hb dX9_feed_66 rfl (lv_at hl 1 rfl) ?_
            refine va_get (D := (dC, dI)) (ci := 9) (v := .int 0) (C := RX9) (T := TX9) (N := 61) hx hb hT inT9 hown hK hP 0 rfl rfl 5 (by decide) (hT _ mw_14) (fun _ h9 => h9) rfl dX9_feed_67 ?_
            refine lv_iload hx hb dX9_feed_70 (lv_at hl 0 rfl) ?_
            refine lv_iadd hx hb dX9_feed_72 ?_
            refine t_i 3 (by decide) ?_
            refine lv_aload_n hx hb dX9_feed_73 rfl (lv_at hl 1 rfl) ?_
            refine va_get (D := (dC, dI)) (ci := 9) (v := .ref (g 6)) (C := RX9) (T := TX9) (N := 61) hx hb hT inT9 hown hK hP 0 rfl rfl 6 (by decide) (hT _ mw_15) (fun _ h9 => h9) rfl dX9_feed_74 ?_
            refine lv_iload hx hb dX9_feed_77 (lv_at hl 0 rfl) ?_
            refine lv_iconst (v := 4) hx hb dX9_feed_79 (by decide) ?_
            refine lv_idiv hx hb dX9_feed_80 (by decide) ?_
            refine t_i 0 (by decide) ?_
            refine va_iald hx hb hK hP 1 0 rfl rfl (by unfold vp_in; decide) dX9_feed_81 ?_
            refine lv_topi (fun z23 _ => ?_)
            refine lv_bipush (v := 24) hx hb dX9_feed_82 (by decide) ?_
            refine lv_bipush (v := 8) hx hb dX9_feed_84 (by decide) ?_
            refine lv_iload hx hb dX9_feed_86 (lv_at hl 0 rfl) ?_
            refine lv_iconst (v := 4) hx hb dX9_feed_88 (by decide) ?_
            refine lv_irem hx hb dX9_feed_89 (by decide) ?_
            refine t_i 3 (by decide) ?_
            refine lv_imul hx hb dX9_feed_90 ?_
            refine t_i 24 (by decide) ?_
            refine lv_isub hx hb dX9_feed_91 ?_
            refine t_i 0 (by decide) ?_
            refine lv_ishr hx hb dX9_feed_92 ?_
            refine lv_topi (fun z24 _ => ?_)
            refine lv_i2b hx hb dX9_feed_93 rfl ?_
            refine lv_topi (fun z25 _ => ?_)
            refine va_bast hx hb hK hP hD hS 2 1 rfl rfl (by unfold vp_in; decide) dX9_feed_94 (fun H locs hP hD hS => ?_)
            have hP : va_P (dC, dI) vwCl [((g 0), .inr (9, oM g 0 0 0 0 0 0 (-1))), ((g 6), .inl ((a 6), 5, .inl f6)), ((g 4), .inl ((a 4), 500, .inl (upd f21 (3 : Int32).toNatClampNeg (vp_nar .byte z25))))] H := hP
            have hD : va_D A [((g 0), .inr (9, oM g 0 0 0 0 0 0 (-1))), ((g 6), .inl ((a 6), 5, .inl f6)), ((g 4), .inl ((a 4), 500, .inl (upd f21 (3 : Int32).toNatClampNeg (vp_nar .byte z25))))] := hD
            generalize (upd f21 (3 : Int32).toNatClampNeg (vp_nar .byte z25)) = f26 at hP hD
            refine lv_iinc (v := 4) (lv' := [(6, .int 4), (0, .ref (g 0)), (1, .int p0), (2, .int p1), (3, .int p2), (4, .int p3), (5, .int p4)]) hx hb dX9_feed_95 hl (k := 0) rfl (by decide) (by decide) rfl (fun ls hl => ?_)
            refine lv_goto (tgt := 55) hx hb dX9_feed_98 (by decide) ?_
            refine lv_iload hx hb dX9_feed_55 (lv_at hl 0 rfl) ?_
            refine lv_bipush (v := 20) hx hb dX9_feed_57 (by decide) ?_
            refine lv_icmp_ge (tgt := 101) hx hb dX9_feed_59 (by decide) (fun c27 => ?_) (fun c27 => ?_)
            · exact absurd c27 (by decide)
            · refine lv_aload_n hx hb dX9_feed_62 rfl (lv_at hl 1 rfl) ?_
              refine va_get (D := (dC, dI)) (ci := 9) (v := .ref (g 4)) (C := RX9) (T := TX9) (N := 61) hx hb hT inT9 hown hK hP 0 rfl rfl 4 (by decide) (hT _ mw_16) (fun _ h9 => h9) rfl dX9_feed_63 ?_
              refine lv_aload_n hx hb dX9_feed_66 rfl (lv_at hl 1 rfl) ?_
              refine va_get (D := (dC, dI)) (ci := 9) (v := .int 0) (C := RX9) (T := TX9) (N := 61) hx hb hT inT9 hown hK hP 0 rfl rfl 5 (by decide) (hT _ mw_14) (fun _ h9 => h9) rfl dX9_feed_67 ?_
              refine lv_iload hx hb dX9_feed_70 (lv_at hl 0 rfl) ?_
              refine lv_iadd hx hb dX9_feed_72 ?_
              refine t_i 4 (by decide) ?_
              refine lv_aload_n hx hb dX9_feed_73 rfl (lv_at hl 1 rfl) ?_
              refine va_get (D := (dC, dI)) (ci := 9) (v := .ref (g 6)) (C := RX9) (T := TX9) (N := 61) hx hb hT inT9 hown hK hP 0 rfl rfl 6 (by decide) (hT _ mw_15) (fun _ h9 => h9) rfl dX9_feed_74 ?_
              refine lv_iload hx hb dX9_feed_77 (lv_at hl 0 rfl) ?_
              refine lv_iconst (v := 4) hx hb dX9_feed_79 (by decide) ?_
              refine lv_idiv hx hb dX9_feed_80 (by decide) ?_
              refine t_i 1 (by decide) ?_
              refine va_iald hx hb hK hP 1 0 rfl rfl (by unfold vp_in; decide) dX9_feed_81 ?_
              refine lv_topi (fun z28 _ => ?_)
              refine lv_bipush (v := 24) hx hb dX9_feed_82 (by decide) ?_
              refine lv_bipush (v := 8) hx hb dX9_feed_84 (by decide) ?_
              refine lv_iload hx hb dX9_feed_86 (lv_at hl 0 rfl) ?_
              refine lv_iconst (v := 4) hx hb dX9_feed_88 (by decide) ?_
              refine lv_irem hx hb dX9_feed_89 (by decide) ?_
              refine t_i 0 (by decide) ?_
              refine lv_imul hx hb dX9_feed_90 ?_
              refine t_i 0 (by decide) ?_
              refine lv_isub hx hb dX9_feed_91 ?_
              refine t_i 24 (by decide) ?_
              refine lv_ishr hx hb dX9_feed_92 ?_
              refine lv_topi (fun z29 _ => ?_)
              refine lv_i2b hx hb dX9_feed_93 rfl ?_
              refine lv_topi (fun z30 _ => ?_)
              refine va_bast hx hb hK hP hD hS 2 1 rfl rfl (by unfold vp_in; decide) dX9_feed_94 (fun H locs hP hD hS => ?_)
              have hP : va_P (dC, dI) vwCl [((g 0), .inr (9, oM g 0 0 0 0 0 0 (-1))), ((g 6), .inl ((a 6), 5, .inl f6)), ((g 4), .inl ((a 4), 500, .inl (upd f26 (4 : Int32).toNatClampNeg (vp_nar .byte z30))))] H := hP
              have hD : va_D A [((g 0), .inr (9, oM g 0 0 0 0 0 0 (-1))), ((g 6), .inl ((a 6), 5, .inl f6)), ((g 4), .inl ((a 4), 500, .inl (upd f26 (4 : Int32).toNatClampNeg (vp_nar .byte z30))))] := hD
              generalize (upd f26 (4 : Int32).toNatClampNeg (vp_nar .byte z30)) = f31 at hP hD
              refine lv_iinc (v := 5) (lv' := [(6, .int 5), (0, .ref (g 0)), (1, .int p0), (2, .int p1), (3, .int p2), (4, .int p3), (5, .int p4)]) hx hb dX9_feed_95 hl (k := 0) rfl (by decide) (by decide) rfl (fun ls hl => ?_)
              refine lv_goto (tgt := 55) hx hb dX9_feed_98 (by decide) ?_
              refine lv_iload hx hb dX9_feed_55 (lv_at hl 0 rfl) ?_
              refine lv_bipush (v := 20) hx hb dX9_feed_57 (by decide) ?_
              refine lv_icmp_ge (tgt := 101) hx hb dX9_feed_59 (by decide) (fun c32 => ?_) (fun c32 => ?_)
              · exact absurd c32 (by decide)
              · refine lv_aload_n hx hb dX9_feed_62 rfl (lv_at hl 1 rfl) ?_
                refine va_get (D := (dC, dI)) (ci := 9) (v := .ref (g 4)) (C := RX9) (T := TX9) (N := 61) hx hb hT inT9 hown hK hP 0 rfl rfl 4 (by decide) (hT _ mw_16) (fun _ h9 => h9) rfl dX9_feed_63 ?_
                refine lv_aload_n hx hb dX9_feed_66 rfl (lv_at hl 1 rfl) ?_
                refine va_get (D := (dC, dI)) (ci := 9) (v := .int 0) (C := RX9) (T := TX9) (N := 61) hx hb hT inT9 hown hK hP 0 rfl rfl 5 (by decide) (hT _ mw_14) (fun _ h9 => h9) rfl dX9_feed_67 ?_
                refine lv_iload hx hb dX9_feed_70 (lv_at hl 0 rfl) ?_
                refine lv_iadd hx hb dX9_feed_72 ?_
                refine t_i 5 (by decide) ?_
                refine lv_aload_n hx hb dX9_feed_73 rfl (lv_at hl 1 rfl) ?_
                refine va_get (D := (dC, dI)) (ci := 9) (v := .ref (g 6)) (C := RX9) (T := TX9) (N := 61) hx hb hT inT9 hown hK hP 0 rfl rfl 6 (by decide) (hT _ mw_15) (fun _ h9 => h9) rfl dX9_feed_74 ?_
                refine lv_iload hx hb dX9_feed_77 (lv_at hl 0 rfl) ?_
                refine lv_iconst (v := 4) hx hb dX9_feed_79 (by decide) ?_
                refine lv_idiv hx hb dX9_feed_80 (by decide) ?_
                refine t_i 1 (by decide) ?_
                refine va_iald hx hb hK hP 1 0 rfl rfl (by unfold vp_in; decide) dX9_feed_81 ?_
                refine lv_topi (fun z33 _ => ?_)
                refine lv_bipush (v := 24) hx hb dX9_feed_82 (by decide) ?_
                refine lv_bipush (v := 8) hx hb dX9_feed_84 (by decide) ?_
                refine lv_iload hx hb dX9_feed_86 (lv_at hl 0 rfl) ?_
                refine lv_iconst (v := 4) hx hb dX9_feed_88 (by decide) ?_
                refine lv_irem hx hb dX9_feed_89 (by decide) ?_
                refine t_i 1 (by decide) ?_
                refine lv_imul hx hb dX9_feed_90 ?_
                refine t_i 8 (by decide) ?_
                refine lv_isub hx hb dX9_feed_91 ?_
                refine t_i 16 (by decide) ?_
                refine lv_ishr hx hb dX9_feed_92 ?_
                refine lv_topi (fun z34 _ => ?_)
                refine lv_i2b hx hb dX9_feed_93 rfl ?_
                refine lv_topi (fun z35 _ => ?_)
                refine va_bast hx hb hK hP hD hS 2 1 rfl rfl (by unfold vp_in; decide) dX9_feed_94 (fun H locs hP hD hS => ?_)
                have hP : va_P (dC, dI) vwCl [((g 0), .inr (9, oM g 0 0 0 0 0 0 (-1))), ((g 6), .inl ((a 6), 5, .inl f6)), ((g 4), .inl ((a 4), 500, .inl (upd f31 (5 : Int32).toNatClampNeg (vp_nar .byte z35))))] H := hP
                have hD : va_D A [((g 0), .inr (9, oM g 0 0 0 0 0 0 (-1))), ((g 6), .inl ((a 6), 5, .inl f6)), ((g 4), .inl ((a 4), 500, .inl (upd f31 (5 : Int32).toNatClampNeg (vp_nar .byte z35))))] := hD
                generalize (upd f31 (5 : Int32).toNatClampNeg (vp_nar .byte z35)) = f36 at hP hD
                refine lv_iinc (v := 6) (lv' := [(6, .int 6), (0, .ref (g 0)), (1, .int p0), (2, .int p1), (3, .int p2), (4, .int p3), (5, .int p4)]) hx hb dX9_feed_95 hl (k := 0) rfl (by decide) (by decide) rfl (fun ls hl => ?_)
                refine lv_goto (tgt := 55) hx hb dX9_feed_98 (by decide) ?_
                refine lv_iload hx hb dX9_feed_55 (lv_at hl 0 rfl) ?_
                refine lv_bipush (v := 20) hx hb dX9_feed_57 (by decide) ?_
                refine lv_icmp_ge (tgt := 101) hx hb dX9_feed_59 (by decide) (fun c37 => ?_) (fun c37 => ?_)
                · exact absurd c37 (by decide)
                · refine lv_aload_n hx hb dX9_feed_62 rfl (lv_at hl 1 rfl) ?_
                  refine va_get (D := (dC, dI)) (ci := 9) (v := .ref (g 4)) (C := RX9) (T := TX9) (N := 61) hx hb hT inT9 hown hK hP 0 rfl rfl 4 (by decide) (hT _ mw_16) (fun _ h9 => h9) rfl dX9_feed_63 ?_
                  refine lv_aload_n hx hb dX9_feed_66 rfl (lv_at hl 1 rfl) ?_
                  refine va_get (D := (dC, dI)) (ci := 9) (v := .int 0) (C := RX9) (T := TX9) (N := 61) hx hb hT inT9 hown hK hP 0 rfl rfl 5 (by decide) (hT _ mw_14) (fun _ h9 => h9) rfl dX9_feed_67 ?_
                  refine lv_iload hx hb dX9_feed_70 (lv_at hl 0 rfl) ?_
                  refine lv_iadd hx hb dX9_feed_72 ?_
                  refine t_i 6 (by decide) ?_
                  refine lv_aload_n hx hb dX9_feed_73 rfl (lv_at hl 1 rfl) ?_
                  refine va_get (D := (dC, dI)) (ci := 9) (v := .ref (g 6)) (C := RX9) (T := TX9) (N := 61) hx hb hT inT9 hown hK hP 0 rfl rfl 6 (by decide) (hT _ mw_15) (fun _ h9 => h9) rfl dX9_feed_74 ?_
                  refine lv_iload hx hb dX9_feed_77 (lv_at hl 0 rfl) ?_
                  refine lv_iconst (v := 4) hx hb dX9_feed_79 (by decide) ?_
                  refine lv_idiv hx hb dX9_feed_80 (by decide) ?_
                  refine t_i 1 (by decide) ?_
                  refine va_iald hx hb hK hP 1 0 rfl rfl (by unfold vp_in; decide) dX9_feed_81 ?_
                  refine lv_topi (fun z38 _ => ?_)
                  refine lv_bipush (v := 24) hx hb dX9_feed_82 (by decide) ?_
                  refine lv_bipush (v := 8) hx hb dX9_feed_84 (by decide) ?_
                  refine lv_iload hx hb dX9_feed_86 (lv_at hl 0 rfl) ?_
                  refine lv_iconst (v := 4) hx hb dX9_feed_88 (by decide) ?_
                  refine lv_irem hx hb dX9_feed_89 (by decide) ?_
                  refine t_i 2 (by decide) ?_
                  refine lv_imul hx hb dX9_feed_90 ?_
                  refine t_i 16 (by decide) ?_
                  refine lv_isub hx hb dX9_feed_91 ?_
                  refine t_i 8 (by decide) ?_
                  refine lv_ishr hx hb dX9_feed_92 ?_
                  refine lv_topi (fun z39 _ => ?_)
                  refine lv_i2b hx hb dX9_feed_93 rfl ?_
                  refine lv_topi (fun z40 _ => ?_)
                  refine va_bast hx hb hK hP hD hS 2 1 rfl rfl (by unfold vp_in; decide) dX9_feed_94 (fun H locs hP hD hS => ?_)
                  have hP : va_P (dC, dI) vwCl [((g 0), .inr (9, oM g 0 0 0 0 0 0 (-1))), ((g 6), .inl ((a 6), 5, .inl f6)), ((g 4), .inl ((a 4), 500, .inl (upd f36 (6 : Int32).toNatClampNeg (vp_nar .byte z40))))] H := hP
                  have hD : va_D A [((g 0), .inr (9, oM g 0 0 0 0 0 0 (-1))), ((g 6), .inl ((a 6), 5, .inl f6)), ((g 4), .inl ((a 4), 500, .inl (upd f36 (6 : Int32).toNatClampNeg (vp_nar .byte z40))))] := hD
                  generalize (upd f36 (6 : Int32).toNatClampNeg (vp_nar .byte z40)) = f41 at hP hD
                  refine lv_iinc (v := 7) (lv' := [(6, .int 7), (0, .ref (g 0)), (1, .int p0), (2, .int p1), (3, .int p2), (4, .int p3), (5, .int p4)]) hx hb dX9_feed_95 hl (k := 0) rfl (by decide) (by decide) rfl (fun ls hl => ?_)
                  refine lv_goto (tgt := 55) hx hb dX9_feed_98 (by decide) ?_
                  refine lv_iload hx hb dX9_feed_55 (lv_at hl 0 rfl) ?_
                  refine lv_bipush (v := 20) hx hb dX9_feed_57 (by decide) ?_
                  refine lv_icmp_ge (tgt := 101) hx hb dX9_feed_59 (by decide) (fun c42 => ?_) (fun c42 => ?_)
                  · exact absurd c42 (by decide)
                  · refine lv_aload_n hx hb dX9_feed_62 rfl (lv_at hl 1 rfl) ?_
                    refine va_get (D := (dC, dI)) (ci := 9) (v := .ref (g 4)) (C := RX9) (T := TX9) (N := 61) hx hb hT inT9 hown hK hP 0 rfl rfl 4 (by decide) (hT _ mw_16) (fun _ h9 => h9) rfl dX9_feed_63 ?_
                    refine lv_aload_n hx hb dX9_feed_66 rfl (lv_at hl 1 rfl) ?_
                    refine va_get (D := (dC, dI)) (ci := 9) (v := .int 0) (C := RX9) (T := TX9) (N := 61) hx hb hT inT9 hown hK hP 0 rfl rfl 5 (by decide) (hT _ mw_14) (fun _ h9 => h9) rfl dX9_feed_67 ?_
                    refine lv_iload hx hb dX9_feed_70 (lv_at hl 0 rfl) ?_
                    refine lv_iadd hx hb dX9_feed_72 ?_
                    refine t_i 7 (by decide) ?_
                    refine lv_aload_n hx hb dX9_feed_73 rfl (lv_at hl 1 rfl) ?_
                    refine va_get (D := (dC, dI)) (ci := 9) (v := .ref (g 6)) (C := RX9) (T := TX9) (N := 61) hx hb hT inT9 hown hK hP 0 rfl rfl 6 (by decide) (hT _ mw_15) (fun _ h9 => h9) rfl dX9_feed_74 ?_
                    refine lv_iload hx hb dX9_feed_77 (lv_at hl 0 rfl) ?_
                    refine lv_iconst (v := 4) hx hb dX9_feed_79 (by decide) ?_
                    refine lv_idiv hx hb dX9_feed_80 (by decide) ?_
                    refine t_i 1 (by decide) ?_
                    refine va_iald hx hb hK hP 1 0 rfl rfl (by unfold vp_in; decide) dX9_feed_81 ?_
                    refine lv_topi (fun z43 _ => ?_)
                    refine lv_bipush (v := 24) hx hb dX9_feed_82 (by decide) ?_
                    refine lv_bipush (v := 8) hx hb dX9_feed_84 (by decide) ?_
                    refine lv_iload hx hb dX9_feed_86 (lv_at hl 0 rfl) ?_
                    refine lv_iconst (v := 4) hx hb dX9_feed_88 (by decide) ?_
                    refine lv_irem hx hb dX9_feed_89 (by decide) ?_
                    refine t_i 3 (by decide) ?_
                    refine lv_imul hx hb dX9_feed_90 ?_
                    refine t_i 24 (by decide) ?_
                    refine lv_isub hx hb dX9_feed_91 ?_
                    refine t_i 0 (by decide) ?_
                    refine lv_ishr hx hb dX9_feed_92 ?_
                    refine lv_topi (fun z44 _ => ?_)
                    refine lv_i2b hx hb dX9_feed_93 rfl ?_
                    refine lv_topi (fun z45 _ => ?_)
                    refine va_bast hx hb hK hP hD hS 2 1 rfl rfl (by unfold vp_in; decide) dX9_feed_94 (fun H locs hP hD hS => ?_)
                    have hP : va_P (dC, dI) vwCl [((g 0), .inr (9, oM g 0 0 0 0 0 0 (-1))), ((g 6), .inl ((a 6), 5, .inl f6)), ((g 4), .inl ((a 4), 500, .inl (upd f41 (7 : Int32).toNatClampNeg (vp_nar .byte z45))))] H := hP
                    have hD : va_D A [((g 0), .inr (9, oM g 0 0 0 0 0 0 (-1))), ((g 6), .inl ((a 6), 5, .inl f6)), ((g 4), .inl ((a 4), 500, .inl (upd f41 (7 : Int32).toNatClampNeg (vp_nar .byte z45))))] := hD
                    generalize (upd f41 (7 : Int32).toNatClampNeg (vp_nar .byte z45)) = f46 at hP hD
                    refine lv_iinc (v := 8) (lv' := [(6, .int 8), (0, .ref (g 0)), (1, .int p0), (2, .int p1), (3, .int p2), (4, .int p3), (5, .int p4)]) hx hb dX9_feed_95 hl (k := 0) rfl (by decide) (by decide) rfl (fun ls hl => ?_)
                    refine lv_goto (tgt := 55) hx hb dX9_feed_98 (by decide) ?_
                    refine lv_iload hx hb dX9_feed_55 (lv_at hl 0 rfl) ?_
                    refine lv_bipush (v := 20) hx hb dX9_feed_57 (by decide) ?_
                    refine lv_icmp_ge (tgt := 101) hx hb dX9_feed_59 (by decide) (fun c47 => ?_) (fun c47 => ?_)
                    · exact absurd c47 (by decide)
                    · refine lv_aload_n hx hb dX9_feed_62 rfl (lv_at hl 1 rfl) ?_
                      refine va_get (D := (dC, dI)) (ci := 9) (v := .ref (g 4)) (C := RX9) (T := TX9) (N := 61) hx hb hT inT9 hown hK hP 0 rfl rfl 4 (by decide) (hT _ mw_16) (fun _ h9 => h9) rfl dX9_feed_63 ?_
                      refine lv_aload_n hx hb dX9_feed_66 rfl (lv_at hl 1 rfl) ?_
                      refine va_get (D := (dC, dI)) (ci := 9) (v := .int 0) (C := RX9) (T := TX9) (N := 61) hx hb hT inT9 hown hK hP 0 rfl rfl 5 (by decide) (hT _ mw_14) (fun _ h9 => h9) rfl dX9_feed_67 ?_
                      refine lv_iload hx hb dX9_feed_70 (lv_at hl 0 rfl) ?_
                      refine lv_iadd hx hb dX9_feed_72 ?_
                      refine t_i 8 (by decide) ?_
                      refine lv_aload_n hx hb dX9_feed_73 rfl (lv_at hl 1 rfl) ?_
                      refine va_get (D := (dC, dI)) (ci := 9) (v := .ref (g 6)) (C := RX9) (T := TX9) (N := 61) hx hb hT inT9 hown hK hP 0 rfl rfl 6 (by decide) (hT _ mw_15) (fun _ h9 => h9) rfl dX9_feed_74 ?_
                      refine lv_iload hx hb dX9_feed_77 (lv_at hl 0 rfl) ?_
                      refine lv_iconst (v := 4) hx hb dX9_feed_79 (by decide) ?_
                      refine lv_idiv hx hb dX9_feed_80 (by decide) ?_
                      refine t_i 2 (by decide) ?_
                      refine va_iald hx hb hK hP 1 0 rfl rfl (by unfold vp_in; decide) dX9_feed_81 ?_
                      refine lv_topi (fun z48 _ => ?_)
                      refine lv_bipush (v := 24) hx hb dX9_feed_82 (by decide) ?_
                      refine lv_bipush (v := 8) hx hb dX9_feed_84 (by decide) ?_
                      refine lv_iload hx hb dX9_feed_86 (lv_at hl 0 rfl) ?_
                      refine lv_iconst (v := 4) hx hb dX9_feed_88 (by decide) ?_
                      refine lv_irem hx hb dX9_feed_89 (by decide) ?_
                      refine t_i 0 (by decide) ?_
                      refine lv_imul hx hb dX9_feed_90 ?_
                      refine t_i 0 (by decide) ?_
                      refine lv_isub hx hb dX9_feed_91 ?_
                      refine t_i 24 (by decide) ?_
                      refine lv_ishr hx hb dX9_feed_92 ?_
                      refine lv_topi (fun z49 _ => ?_)
                      refine lv_i2b hx hb dX9_feed_93 rfl ?_
                      refine lv_topi (fun z50 _ => ?_)
                      refine va_bast hx hb hK hP hD hS 2 1 rfl rfl (by unfold vp_in; decide) dX9_feed_94 (fun H locs hP hD hS => ?_)
                      have hP : va_P (dC, dI) vwCl [((g 0), .inr (9, oM g 0 0 0 0 0 0 (-1))), ((g 6), .inl ((a 6), 5, .inl f6)), ((g 4), .inl ((a 4), 500, .inl (upd f46 (8 : Int32).toNatClampNeg (vp_nar .byte z50))))] H := hP
                      have hD : va_D A [((g 0), .inr (9, oM g 0 0 0 0 0 0 (-1))), ((g 6), .inl ((a 6), 5, .inl f6)), ((g 4), .inl ((a 4), 500, .inl (upd f46 (8 : Int32).toNatClampNeg (vp_nar .byte z50))))] := hD
                      generalize (upd f46 (8 : Int32).toNatClampNeg (vp_nar .byte z50)) = f51 at hP hD
                      refine lv_iinc (v := 9) (lv' := [(6, .int 9), (0, .ref (g 0)), (1, .int p0), (2, .int p1), (3, .int p2), (4, .int p3), (5, .int p4)]) hx hb dX9_feed_95 hl (k := 0) rfl (by decide) (by decide) rfl (fun ls hl => ?_)
                      refine lv_goto (tgt := 55) hx hb dX9_feed_98 (by decide) ?_
                      refine lv_iload hx hb dX9_feed_55 (lv_at hl 0 rfl) ?_
                      refine lv_bipush (v := 20) hx hb dX9_feed_57 (by decide) ?_
                      refine lv_icmp_ge (tgt := 101) hx hb dX9_feed_59 (by decide) (fun c52 => ?_) (fun c52 => ?_)
                      · exact absurd c52 (by decide)
                      · refine lv_aload_n hx hb dX9_feed_62 rfl (lv_at hl 1 rfl) ?_
                        refine va_get (D := (dC, dI)) (ci := 9) (v := .ref (g 4)) (C := RX9) (T := TX9) (N := 61) hx hb hT inT9 hown hK hP 0 rfl rfl 4 (by decide) (hT _ mw_16) (fun _ h9 => h9) rfl dX9_feed_63 ?_
                        refine lv_aload_n hx hb dX9_feed_66 rfl (lv_at hl 1 rfl) ?_
                        refine va_get (D := (dC, dI)) (ci := 9) (v := .int 0) (C := RX9) (T := TX9) (N := 61) hx hb hT inT9 hown hK hP 0 rfl rfl 5 (by decide) (hT _ mw_14) (fun _ h9 => h9) rfl dX9_feed_67 ?_
                        refine lv_iload hx hb dX9_feed_70 (lv_at hl 0 rfl) ?_
                        refine lv_iadd hx hb dX9_feed_72 ?_
                        refine t_i 9 (by decide) ?_
                        refine lv_aload_n hx hb dX9_feed_73 rfl (lv_at hl 1 rfl) ?_
                        refine va_get (D := (dC, dI)) (ci := 9) (v := .ref (g 6)) (C := RX9) (T := TX9) (N := 61) hx hb hT inT9 hown hK hP 0 rfl rfl 6 (by decide) (hT _ mw_15) (fun _ h9 => h9) rfl dX9_feed_74 ?_
                        refine lv_iload hx hb dX9_feed_77 (lv_at hl 0 rfl) ?_
                        refine lv_iconst (v := 4) hx hb dX9_feed_79 (by decide) ?_
                        refine lv_idiv hx hb dX9_feed_80 (by decide) ?_
                        refine t_i 2 (by decide) ?_
                        refine va_iald hx hb hK hP 1 0 rfl rfl (by unfold vp_in; decide) dX9_feed_81 ?_
                        refine lv_topi (fun z53 _ => ?_)
                        refine lv_bipush (v := 24) hx hb dX9_feed_82 (by decide) ?_
                        refine lv_bipush (v := 8) hx hb dX9_feed_84 (by decide) ?_
                        refine lv_iload hx hb dX9_feed_86 (lv_at hl 0 rfl) ?_
                        refine lv_iconst (v := 4) hx hb dX9_feed_88 (by decide) ?_
                        refine lv_irem hx hb dX9_feed_89 (by decide) ?_
                        refine t_i 1 (by decide) ?_
                        refine lv_imul hx hb dX9_feed_90 ?_
                        refine t_i 8 (by decide) ?_
                        refine lv_isub hx hb dX9_feed_91 ?_
                        refine t_i 16 (by decide) ?_
                        refine lv_ishr hx hb dX9_feed_92 ?_
                        refine lv_topi (fun z54 _ => ?_)
                        refine lv_i2b hx hb dX9_feed_93 rfl ?_
                        refine lv_topi (fun z55 _ => ?_)
                        refine va_bast hx hb hK hP hD hS 2 1 rfl rfl (by unfold vp_in; decide) dX9_feed_94 (fun H locs hP hD hS => ?_)
                        have hP : va_P (dC, dI) vwCl [((g 0), .inr (9, oM g 0 0 0 0 0 0 (-1))), ((g 6), .inl ((a 6), 5, .inl f6)), ((g 4), .inl ((a 4), 500, .inl (upd f51 (9 : Int32).toNatClampNeg (vp_nar .byte z55))))] H := hP
                        have hD : va_D A [((g 0), .inr (9, oM g 0 0 0 0 0 0 (-1))), ((g 6), .inl ((a 6), 5, .inl f6)), ((g 4), .inl ((a 4), 500, .inl (upd f51 (9 : Int32).toNatClampNeg (vp_nar .byte z55))))] := hD
                        generalize (upd f51 (9 : Int32).toNatClampNeg (vp_nar .byte z55)) = f56 at hP hD
                        refine lv_iinc (v := 10) (lv' := [(6, .int 10), (0, .ref (g 0)), (1, .int p0), (2, .int p1), (3, .int p2), (4, .int p3), (5, .int p4)]) hx hb dX9_feed_95 hl (k := 0) rfl (by decide) (by decide) rfl (fun ls hl => ?_)
                        refine lv_goto (tgt := 55) hx hb dX9_feed_98 (by decide) ?_
                        refine lv_iload hx hb dX9_feed_55 (lv_at hl 0 rfl) ?_
                        refine lv_bipush (v := 20) hx hb dX9_feed_57 (by decide) ?_
                        refine lv_icmp_ge (tgt := 101) hx hb dX9_feed_59 (by decide) (fun c57 => ?_) (fun c57 => ?_)
                        · exact absurd c57 (by decide)
                        · refine lv_aload_n hx hb dX9_feed_62 rfl (lv_at hl 1 rfl) ?_
                          refine va_get (D := (dC, dI)) (ci := 9) (v := .ref (g 4)) (C := RX9) (T := TX9) (N := 61) hx hb hT inT9 hown hK hP 0 rfl rfl 4 (by decide) (hT _ mw_16) (fun _ h9 => h9) rfl dX9_feed_63 ?_
                          refine lv_aload_n hx hb dX9_feed_66 rfl (lv_at hl 1 rfl) ?_
                          refine va_get (D := (dC, dI)) (ci := 9) (v := .int 0) (C := RX9) (T := TX9) (N := 61) hx hb hT inT9 hown hK hP 0 rfl rfl 5 (by decide) (hT _ mw_14) (fun _ h9 => h9) rfl dX9_feed_67 ?_
                          refine lv_iload hx hb dX9_feed_70 (lv_at hl 0 rfl) ?_
                          refine lv_iadd hx hb dX9_feed_72 ?_
                          refine t_i 10 (by decide) ?_
                          refine lv_aload_n hx hb dX9_feed_73 rfl (lv_at hl 1 rfl) ?_
                          refine va_get (D := (dC, dI)) (ci := 9) (v := .ref (g 6)) (C := RX9) (T := TX9) (N := 61) hx hb hT inT9 hown hK hP 0 rfl rfl 6 (by decide) (hT _ mw_15) (fun _ h9 => h9) rfl dX9_feed_74 ?_
                          refine lv_iload hx hb dX9_feed_77 (lv_at hl 0 rfl) ?_
                          refine lv_iconst (v := 4) hx hb dX9_feed_79 (by decide) ?_
                          refine lv_idiv hx hb dX9_feed_80 (by decide) ?_
                          refine t_i 2 (by decide) ?_
                          refine va_iald hx hb hK hP 1 0 rfl rfl (by unfold vp_in; decide) dX9_feed_81 ?_
                          refine lv_topi (fun z58 _ => ?_)
                          refine lv_bipush (v := 24) hx hb dX9_feed_82 (by decide) ?_
                          refine lv_bipush (v := 8) hx hb dX9_feed_84 (by decide) ?_
                          refine lv_iload hx hb dX9_feed_86 (lv_at hl 0 rfl) ?_
                          refine lv_iconst (v := 4) hx hb dX9_feed_88 (by decide) ?_
                          refine lv_irem hx hb dX9_feed_89 (by decide) ?_
                          refine t_i 2 (by decide) ?_
                          refine lv_imul hx hb dX9_feed_90 ?_
                          refine t_i 16 (by decide) ?_
                          refine lv_isub hx hb dX9_feed_91 ?_
                          refine t_i 8 (by decide) ?_
                          refine lv_ishr hx hb dX9_feed_92 ?_
                          refine lv_topi (fun z59 _ => ?_)
                          refine lv_i2b hx hb dX9_feed_93 rfl ?_
                          refine lv_topi (fun z60 _ => ?_)
                          refine va_bast hx hb hK hP hD hS 2 1 rfl rfl (by unfold vp_in; decide) dX9_feed_94 (fun H locs hP hD hS => ?_)
                          have hP : va_P (dC, dI) vwCl [((g 0), .inr (9, oM g 0 0 0 0 0 0 (-1))), ((g 6), .inl ((a 6), 5, .inl f6)), ((g 4), .inl ((a 4), 500, .inl (upd f56 (10 : Int32).toNatClampNeg (vp_nar .byte z60))))] H := hP
                          have hD : va_D A [((g 0), .inr (9, oM g 0 0 0 0 0 0 (-1))), ((g 6), .inl ((a 6), 5, .inl f6)), ((g 4), .inl ((a 4), 500, .inl (upd f56 (10 : Int32).toNatClampNeg (vp_nar .byte z60))))] := hD
                          generalize (upd f56 (10 : Int32).toNatClampNeg (vp_nar .byte z60)) = f61 at hP hD
                          refine lv_iinc (v := 11) (lv' := [(6, .int 11), (0, .ref (g 0)), (1, .int p0), (2, .int p1), (3, .int p2), (4, .int p3), (5, .int p4)]) hx hb dX9_feed_95 hl (k := 0) rfl (by decide) (by decide) rfl (fun ls hl => ?_)
                          refine lv_goto (tgt := 55) hx hb dX9_feed_98 (by decide) ?_
                          refine lv_iload hx hb dX9_feed_55 (lv_at hl 0 rfl) ?_
                          refine lv_bipush (v := 20) hx hb dX9_feed_57 (by decide) ?_
                          refine lv_icmp_ge (tgt := 101) hx hb dX9_feed_59 (by decide) (fun c62 => ?_) (fun c62 => ?_)
                          · exact absurd c62 (by decide)
                          · refine lv_aload_n hx hb dX9_feed_62 rfl (lv_at hl 1 rfl) ?_
                            refine va_get (D := (dC, dI)) (ci := 9) (v := .ref (g 4)) (C := RX9) (T := TX9) (N := 61) hx hb hT inT9 hown hK hP 0 rfl rfl 4 (by decide) (hT _ mw_16) (fun _ h9 => h9) rfl dX9_feed_63 ?_
                            refine lv_aload_n hx hb dX9_feed_66 rfl (lv_at hl 1 rfl) ?_
                            refine va_get (D := (dC, dI)) (ci := 9) (v := .int 0) (C := RX9) (T := TX9) (N := 61) hx hb hT inT9 hown hK hP 0 rfl rfl 5 (by decide) (hT _ mw_14) (fun _ h9 => h9) rfl dX9_feed_67 ?_
                            refine lv_iload hx hb dX9_feed_70 (lv_at hl 0 rfl) ?_
                            refine lv_iadd hx hb dX9_feed_72 ?_
                            refine t_i 11 (by decide) ?_
                            refine lv_aload_n hx hb dX9_feed_73 rfl (lv_at hl 1 rfl) ?_
                            refine va_get (D := (dC, dI)) (ci := 9) (v := .ref (g 6)) (C := RX9) (T := TX9) (N := 61) hx hb hT inT9 hown hK hP 0 rfl rfl 6 (by decide) (hT _ mw_15) (fun _ h9 => h9) rfl dX9_feed_74 ?_
                            refine lv_iload hx hb dX9_feed_77 (lv_at hl 0 rfl) ?_
                            refine lv_iconst (v := 4) hx hb dX9_feed_79 (by decide) ?_
                            refine lv_idiv hx hb dX9_feed_80 (by decide) ?_
                            refine t_i 2 (by decide) ?_
                            refine va_iald hx hb hK hP 1 0 rfl rfl (by unfold vp_in; decide) dX9_feed_81 ?_
                            refine lv_topi (fun z63 _ => ?_)
                            refine lv_bipush (v := 24) hx hb dX9_feed_82 (by decide) ?_
                            refine lv_bipush (v := 8) hx hb dX9_feed_84 (by decide) ?_
                            refine lv_iload hx hb dX9_feed_86 (lv_at hl 0 rfl) ?_
                            refine lv_iconst (v := 4) hx hb dX9_feed_88 (by decide) ?_
                            refine lv_irem hx hb dX9_feed_89 (by decide) ?_
                            refine t_i 3 (by decide) ?_
                            refine lv_imul hx hb dX9_feed_90 ?_
                            refine t_i 24 (by decide) ?_
                            refine lv_isub hx hb dX9_feed_91 ?_
                            refine t_i 0 (by decide) ?_
                            refine lv_ishr hx hb dX9_feed_92 ?_
                            refine lv_topi (fun z64 _ => ?_)
                            refine lv_i2b hx hb dX9_feed_93 rfl ?_
                            refine lv_topi (fun z65 _ => ?_)
                            refine va_bast hx hb hK hP hD hS 2 1 rfl rfl (by unfold vp_in; decide) dX9_feed_94 (fun H locs hP hD hS => ?_)
                            have hP : va_P (dC, dI) vwCl [((g 0), .inr (9, oM g 0 0 0 0 0 0 (-1))), ((g 6), .inl ((a 6), 5, .inl f6)), ((g 4), .inl ((a 4), 500, .inl (upd f61 (11 : Int32).toNatClampNeg (vp_nar .byte z65))))] H := hP
                            have hD : va_D A [((g 0), .inr (9, oM g 0 0 0 0 0 0 (-1))), ((g 6), .inl ((a 6), 5, .inl f6)), ((g 4), .inl ((a 4), 500, .inl (upd f61 (11 : Int32).toNatClampNeg (vp_nar .byte z65))))] := hD
                            generalize (upd f61 (11 : Int32).toNatClampNeg (vp_nar .byte z65)) = f66 at hP hD
                            refine lv_iinc (v := 12) (lv' := [(6, .int 12), (0, .ref (g 0)), (1, .int p0), (2, .int p1), (3, .int p2), (4, .int p3), (5, .int p4)]) hx hb dX9_feed_95 hl (k := 0) rfl (by decide) (by decide) rfl (fun ls hl => ?_)
                            refine lv_goto (tgt := 55) hx hb dX9_feed_98 (by decide) ?_
                            refine lv_iload hx hb dX9_feed_55 (lv_at hl 0 rfl) ?_
                            refine lv_bipush (v := 20) hx hb dX9_feed_57 (by decide) ?_
                            refine lv_icmp_ge (tgt := 101) hx hb dX9_feed_59 (by decide) (fun c67 => ?_) (fun c67 => ?_)
                            · exact absurd c67 (by decide)
                            · refine lv_aload_n hx hb dX9_feed_62 rfl (lv_at hl 1 rfl) ?_
                              refine va_get (D := (dC, dI)) (ci := 9) (v := .ref (g 4)) (C := RX9) (T := TX9) (N := 61) hx hb hT inT9 hown hK hP 0 rfl rfl 4 (by decide) (hT _ mw_16) (fun _ h9 => h9) rfl dX9_feed_63 ?_
                              refine lv_aload_n hx hb dX9_feed_66 rfl (lv_at hl 1 rfl) ?_
                              refine va_get (D := (dC, dI)) (ci := 9) (v := .int 0) (C := RX9) (T := TX9) (N := 61) hx hb hT inT9 hown hK hP 0 rfl rfl 5 (by decide) (hT _ mw_14) (fun _ h9 => h9) rfl dX9_feed_67 ?_
                              refine lv_iload hx hb dX9_feed_70 (lv_at hl 0 rfl) ?_
                              refine lv_iadd hx hb dX9_feed_72 ?_
                              refine t_i 12 (by decide) ?_
                              refine lv_aload_n hx hb dX9_feed_73 rfl (lv_at hl 1 rfl) ?_
                              refine va_get (D := (dC, dI)) (ci := 9) (v := .ref (g 6)) (C := RX9) (T := TX9) (N := 61) hx hb hT inT9 hown hK hP 0 rfl rfl 6 (by decide) (hT _ mw_15) (fun _ h9 => h9) rfl dX9_feed_74 ?_
                              refine lv_iload hx hb dX9_feed_77 (lv_at hl 0 rfl) ?_
                              refine lv_iconst (v := 4) hx hb dX9_feed_79 (by decide) ?_
                              refine lv_idiv hx hb dX9_feed_80 (by decide) ?_
                              refine t_i 3 (by decide) ?_
                              refine va_iald hx hb hK hP 1 0 rfl rfl (by unfold vp_in; decide) dX9_feed_81 ?_
                              refine lv_topi (fun z68 _ => ?_)
                              refine lv_bipush (v := 24) hx hb dX9_feed_82 (by decide) ?_
                              refine lv_bipush (v := 8) hx hb dX9_feed_84 (by decide) ?_
                              refine lv_iload hx hb dX9_feed_86 (lv_at hl 0 rfl) ?_
                              refine lv_iconst (v := 4) hx hb dX9_feed_88 (by decide) ?_
                              refine lv_irem hx hb dX9_feed_89 (by decide) ?_
                              refine t_i 0 (by decide) ?_
                              refine lv_imul hx hb dX9_feed_90 ?_
                              refine t_i 0 (by decide) ?_
                              refine lv_isub hx hb dX9_feed_91 ?_
                              refine t_i 24 (by decide) ?_
                              refine lv_ishr hx hb dX9_feed_92 ?_
                              refine lv_topi (fun z69 _ => ?_)
                              refine lv_i2b hx hb dX9_feed_93 rfl ?_
                              refine lv_topi (fun z70 _ => ?_)
                              refine va_bast hx hb hK hP hD hS 2 1 rfl rfl (by unfold vp_in; decide) dX9_feed_94 (fun H locs hP hD hS => ?_)
                              have hP : va_P (dC, dI) vwCl [((g 0), .inr (9, oM g 0 0 0 0 0 0 (-1))), ((g 6), .inl ((a 6), 5, .inl f6)), ((g 4), .inl ((a 4), 500, .inl (upd f66 (12 : Int32).toNatClampNeg (vp_nar .byte z70))))] H := hP
                              have hD : va_D A [((g 0), .inr (9, oM g 0 0 0 0 0 0 (-1))), ((g 6), .inl ((a 6), 5, .inl f6)), ((g 4), .inl ((a 4), 500, .inl (upd f66 (12 : Int32).toNatClampNeg (vp_nar .byte z70))))] := hD
                              generalize (upd f66 (12 : Int32).toNatClampNeg (vp_nar .byte z70)) = f71 at hP hD
                              refine lv_iinc (v := 13) (lv' := [(6, .int 13), (0, .ref (g 0)), (1, .int p0), (2, .int p1), (3, .int p2), (4, .int p3), (5, .int p4)]) hx hb dX9_feed_95 hl (k := 0) rfl (by decide) (by decide) rfl (fun ls hl => ?_)
                              refine lv_goto (tgt := 55) hx hb dX9_feed_98 (by decide) ?_
                              refine lv_iload hx hb dX9_feed_55 (lv_at hl 0 rfl) ?_
                              refine lv_bipush (v := 20) hx hb dX9_feed_57 (by decide) ?_
                              refine lv_icmp_ge (tgt := 101) hx hb dX9_feed_59 (by decide) (fun c72 => ?_) (fun c72 => ?_)
                              · exact absurd c72 (by decide)
                              · refine lv_aload_n hx hb dX9_feed_62 rfl (lv_at hl 1 rfl) ?_
                                refine va_get (D := (dC, dI)) (ci := 9) (v := .ref (g 4)) (C := RX9) (T := TX9) (N := 61) hx hb hT inT9 hown hK hP 0 rfl rfl 4 (by decide) (hT _ mw_16) (fun _ h9 => h9) rfl dX9_feed_63 ?_
                                refine lv_aload_n hx hb dX9_feed_66 rfl (lv_at hl 1 rfl) ?_
                                refine va_get (D := (dC, dI)) (ci := 9) (v := .int 0) (C := RX9) (T := TX9) (N := 61) hx hb hT inT9 hown hK hP 0 rfl rfl 5 (by decide) (hT _ mw_14) (fun _ h9 => h9) rfl dX9_feed_67 ?_
                                refine lv_iload hx hb dX9_feed_70 (lv_at hl 0 rfl) ?_
                                refine lv_iadd hx hb dX9_feed_72 ?_
                                refine t_i 13 (by decide) ?_
                                refine lv_aload_n hx hb dX9_feed_73 rfl (lv_at hl 1 rfl) ?_
                                refine va_get (D := (dC, dI)) (ci := 9) (v := .ref (g 6)) (C := RX9) (T := TX9) (N := 61) hx hb hT inT9 hown hK hP 0 rfl rfl 6 (by decide) (hT _ mw_15) (fun _ h9 => h9) rfl dX9_feed_74 ?_
                                refine lv_iload hx hb dX9_feed_77 (lv_at hl 0 rfl) ?_
                                refine lv_iconst (v := 4) hx hb dX9_feed_79 (by decide) ?_
                                refine lv_idiv hx hb dX9_feed_80 (by decide) ?_
                                refine t_i 3 (by decide) ?_
                                refine va_iald hx hb hK hP 1 0 rfl rfl (by unfold vp_in; decide) dX9_feed_81 ?_
                                refine lv_topi (fun z73 _ => ?_)
                                refine lv_bipush (v := 24) hx hb dX9_feed_82 (by decide) ?_
                                refine lv_bipush (v := 8) hx hb dX9_feed_84 (by decide) ?_
                                refine lv_iload hx hb dX9_feed_86 (lv_at hl 0 rfl) ?_
                                refine lv_iconst (v := 4) hx hb dX9_feed_88 (by decide) ?_
                                refine lv_irem hx hb dX9_feed_89 (by decide) ?_
                                refine t_i 1 (by decide) ?_
                                refine lv_imul hx hb dX9_feed_90 ?_
                                refine t_i 8 (by decide) ?_
                                refine lv_isub hx hb dX9_feed_91 ?_
                                refine t_i 16 (by decide) ?_
                                refine lv_ishr hx hb dX9_feed_92 ?_
                                refine lv_topi (fun z74 _ => ?_)
                                refine lv_i2b hx hb dX9_feed_93 rfl ?_
                                refine lv_topi (fun z75 _ => ?_)
                                refine va_bast hx hb hK hP hD hS 2 1 rfl rfl (by unfold vp_in; decide) dX9_feed_94 (fun H locs hP hD hS => ?_)
                                have hP : va_P (dC, dI) vwCl [((g 0), .inr (9, oM g 0 0 0 0 0 0 (-1))), ((g 6), .inl ((a 6), 5, .inl f6)), ((g 4), .inl ((a 4), 500, .inl (upd f71 (13 : Int32).toNatClampNeg (vp_nar .byte z75))))] H := hP
                                have hD : va_D A [((g 0), .inr (9, oM g 0 0 0 0 0 0 (-1))), ((g 6), .inl ((a 6), 5, .inl f6)), ((g 4), .inl ((a 4), 500, .inl (upd f71 (13 : Int32).toNatClampNeg (vp_nar .byte z75))))] := hD
                                generalize (upd f71 (13 : Int32).toNatClampNeg (vp_nar .byte z75)) = f76 at hP hD
                                refine lv_iinc (v := 14) (lv' := [(6, .int 14), (0, .ref (g 0)), (1, .int p0), (2, .int p1), (3, .int p2), (4, .int p3), (5, .int p4)]) hx hb dX9_feed_95 hl (k := 0) rfl (by decide) (by decide) rfl (fun ls hl => ?_)
                                refine lv_goto (tgt := 55) hx hb dX9_feed_98 (by decide) ?_
                                refine lv_iload hx hb dX9_feed_55 (lv_at hl 0 rfl) ?_
                                refine lv_bipush (v := 20) hx hb dX9_feed_57 (by decide) ?_
                                refine lv_icmp_ge (tgt := 101) hx hb dX9_feed_59 (by decide) (fun c77 => ?_) (fun c77 => ?_)
                                · exact absurd c77 (by decide)
                                · refine lv_aload_n hx hb dX9_feed_62 rfl (lv_at hl 1 rfl) ?_
                                  refine va_get (D := (dC, dI)) (ci := 9) (v := .ref (g 4)) (C := RX9) (T := TX9) (N := 61) hx hb hT inT9 hown hK hP 0 rfl rfl 4 (by decide) (hT _ mw_16) (fun _ h9 => h9) rfl dX9_feed_63 ?_
                                  refine lv_aload_n hx hb dX9_feed_66 rfl (lv_at hl 1 rfl) ?_
                                  refine va_get (D := (dC, dI)) (ci := 9) (v := .int 0) (C := RX9) (T := TX9) (N := 61) hx hb hT inT9 hown hK hP 0 rfl rfl 5 (by decide) (hT _ mw_14) (fun _ h9 => h9) rfl dX9_feed_67 ?_
                                  refine lv_iload hx hb dX9_feed_70 (lv_at hl 0 rfl) ?_
                                  refine lv_iadd hx hb dX9_feed_72 ?_
                                  refine t_i 14 (by decide) ?_
                                  refine lv_aload_n hx hb dX9_feed_73 rfl (lv_at hl 1 rfl) ?_
                                  refine va_get (D := (dC, dI)) (ci := 9) (v := .ref (g 6)) (C := RX9) (T := TX9) (N := 61) hx hb hT inT9 hown hK hP 0 rfl rfl 6 (by decide) (hT _ mw_15) (fun _ h9 => h9) rfl dX9_feed_74 ?_
                                  refine lv_iload hx hb dX9_feed_77 (lv_at hl 0 rfl) ?_
                                  refine lv_iconst (v := 4) hx hb dX9_feed_79 (by decide) ?_
                                  refine lv_idiv hx hb dX9_feed_80 (by decide) ?_
                                  refine t_i 3 (by decide) ?_
                                  refine va_iald hx hb hK hP 1 0 rfl rfl (by unfold vp_in; decide) dX9_feed_81 ?_
                                  refine lv_topi (fun z78 _ => ?_)
                                  refine lv_bipush (v := 24) hx hb dX9_feed_82 (by decide) ?_
                                  refine lv_bipush (v := 8) hx hb dX9_feed_84 (by decide) ?_
                                  refine lv_iload hx hb dX9_feed_86 (lv_at hl 0 rfl) ?_
                                  refine lv_iconst (v := 4) hx hb dX9_feed_88 (by decide) ?_
                                  refine lv_irem hx hb dX9_feed_89 (by decide) ?_
                                  refine t_i 2 (by decide) ?_
                                  refine lv_imul hx hb dX9_feed_90 ?_
                                  refine t_i 16 (by decide) ?_
                                  refine lv_isub hx hb dX9_feed_91 ?_
                                  refine t_i 8 (by decide) ?_
                                  refine lv_ishr hx hb dX9_feed_92 ?_
                                  refine lv_topi (fun z79 _ => ?_)
                                  refine lv_i2b hx hb dX9_feed_93 rfl ?_
                                  refine lv_topi (fun z80 _ => ?_)
                                  refine va_bast hx hb hK hP hD hS 2 1 rfl rfl (by unfold vp_in; decide) dX9_feed_94 (fun H locs hP hD hS => ?_)
                                  have hP : va_P (dC, dI) vwCl [((g 0), .inr (9, oM g 0 0 0 0 0 0 (-1))), ((g 6), .inl ((a 6), 5, .inl f6)), ((g 4), .inl ((a 4), 500, .inl (upd f76 (14 : Int32).toNatClampNeg (vp_nar .byte z80))))] H := hP
                                  have hD : va_D A [((g 0), .inr (9, oM g 0 0 0 0 0 0 (-1))), ((g 6), .inl ((a 6), 5, .inl f6)), ((g 4), .inl ((a 4), 500, .inl (upd f76 (14 : Int32).toNatClampNeg (vp_nar .byte z80))))] := hD
                                  generalize (upd f76 (14 : Int32).toNatClampNeg (vp_nar .byte z80)) = f81 at hP hD
                                  refine lv_iinc (v := 15) (lv' := [(6, .int 15), (0, .ref (g 0)), (1, .int p0), (2, .int p1), (3, .int p2), (4, .int p3), (5, .int p4)]) hx hb dX9_feed_95 hl (k := 0) rfl (by decide) (by decide) rfl (fun ls hl => ?_)
                                  refine lv_goto (tgt := 55) hx hb dX9_feed_98 (by decide) ?_
                                  refine lv_iload hx hb dX9_feed_55 (lv_at hl 0 rfl) ?_
                                  refine lv_bipush (v := 20) hx hb dX9_feed_57 (by decide) ?_
                                  refine lv_icmp_ge (tgt := 101) hx hb dX9_feed_59 (by decide) (fun c82 => ?_) (fun c82 => ?_)
                                  · exact absurd c82 (by decide)
                                  · refine lv_aload_n hx hb dX9_feed_62 rfl (lv_at hl 1 rfl) ?_
                                    refine va_get (D := (dC, dI)) (ci := 9) (v := .ref (g 4)) (C := RX9) (T := TX9) (N := 61) hx hb hT inT9 hown hK hP 0 rfl rfl 4 (by decide) (hT _ mw_16) (fun _ h9 => h9) rfl dX9_feed_63 ?_
                                    refine lv_aload_n hx hb dX9_feed_66 rfl (lv_at hl 1 rfl) ?_
                                    refine va_get (D := (dC, dI)) (ci := 9) (v := .int 0) (C := RX9) (T := TX9) (N := 61) hx hb hT inT9 hown hK hP 0 rfl rfl 5 (by decide) (hT _ mw_14) (fun _ h9 => h9) rfl dX9_feed_67 ?_
                                    refine lv_iload hx hb dX9_feed_70 (lv_at hl 0 rfl) ?_
                                    refine lv_iadd hx hb dX9_feed_72 ?_
                                    refine t_i 15 (by decide) ?_
                                    refine lv_aload_n hx hb dX9_feed_73 rfl (lv_at hl 1 rfl) ?_
                                    refine va_get (D := (dC, dI)) (ci := 9) (v := .ref (g 6)) (C := RX9) (T := TX9) (N := 61) hx hb hT inT9 hown hK hP 0 rfl rfl 6 (by decide) (hT _ mw_15) (fun _ h9 => h9) rfl dX9_feed_74 ?_
                                    refine lv_iload hx hb dX9_feed_77 (lv_at hl 0 rfl) ?_
                                    refine lv_iconst (v := 4) hx hb dX9_feed_79 (by decide) ?_
                                    refine lv_idiv hx hb dX9_feed_80 (by decide) ?_
                                    refine t_i 3 (by decide) ?_
                                    refine va_iald hx hb hK hP 1 0 rfl rfl (by unfold vp_in; decide) dX9_feed_81 ?_
                                    refine lv_topi (fun z83 _ => ?_)
                                    refine lv_bipush (v := 24) hx hb dX9_feed_82 (by decide) ?_
                                    refine lv_bipush (v := 8) hx hb dX9_feed_84 (by decide) ?_
                                    refine lv_iload hx hb dX9_feed_86 (lv_at hl 0 rfl) ?_
                                    refine lv_iconst (v := 4) hx hb dX9_feed_88 (by decide) ?_
                                    refine lv_irem hx hb dX9_feed_89 (by decide) ?_
                                    refine t_i 3 (by decide) ?_
                                    refine lv_imul hx hb dX9_feed_90 ?_
                                    refine t_i 24 (by decide) ?_
                                    refine lv_isub hx hb dX9_feed_91 ?_
                                    refine t_i 0 (by decide) ?_
                                    refine lv_ishr hx hb dX9_feed_92 ?_
                                    refine lv_topi (fun z84 _ => ?_)
                                    refine lv_i2b hx hb dX9_feed_93 rfl ?_
                                    refine lv_topi (fun z85 _ => ?_)
                                    refine va_bast hx hb hK hP hD hS 2 1 rfl rfl (by unfold vp_in; decide) dX9_feed_94 (fun H locs hP hD hS => ?_)
                                    have hP : va_P (dC, dI) vwCl [((g 0), .inr (9, oM g 0 0 0 0 0 0 (-1))), ((g 6), .inl ((a 6), 5, .inl f6)), ((g 4), .inl ((a 4), 500, .inl (upd f81 (15 : Int32).toNatClampNeg (vp_nar .byte z85))))] H := hP
                                    have hD : va_D A [((g 0), .inr (9, oM g 0 0 0 0 0 0 (-1))), ((g 6), .inl ((a 6), 5, .inl f6)), ((g 4), .inl ((a 4), 500, .inl (upd f81 (15 : Int32).toNatClampNeg (vp_nar .byte z85))))] := hD
                                    generalize (upd f81 (15 : Int32).toNatClampNeg (vp_nar .byte z85)) = f86 at hP hD
                                    refine lv_iinc (v := 16) (lv' := [(6, .int 16), (0, .ref (g 0)), (1, .int p0), (2, .int p1), (3, .int p2), (4, .int p3), (5, .int p4)]) hx hb dX9_feed_95 hl (k := 0) rfl (by decide) (by decide) rfl (fun ls hl => ?_)
                                    refine lv_goto (tgt := 55) hx hb dX9_feed_98 (by decide) ?_
                                    refine lv_iload hx hb dX9_feed_55 (lv_at hl 0 rfl) ?_
                                    refine lv_bipush (v := 20) hx hb dX9_feed_57 (by decide) ?_
                                    refine lv_icmp_ge (tgt := 101) hx hb dX9_feed_59 (by decide) (fun c87 => ?_) (fun c87 => ?_)
                                    · exact absurd c87 (by decide)
                                    · refine lv_aload_n hx hb dX9_feed_62 rfl (lv_at hl 1 rfl) ?_
                                      refine va_get (D := (dC, dI)) (ci := 9) (v := .ref (g 4)) (C := RX9) (T := TX9) (N := 61) hx hb hT inT9 hown hK hP 0 rfl rfl 4 (by decide) (hT _ mw_16) (fun _ h9 => h9) rfl dX9_feed_63 ?_
                                      refine lv_aload_n hx hb dX9_feed_66 rfl (lv_at hl 1 rfl) ?_
                                      refine va_get (D := (dC, dI)) (ci := 9) (v := .int 0) (C := RX9) (T := TX9) (N := 61) hx hb hT inT9 hown hK hP 0 rfl rfl 5 (by decide) (hT _ mw_14) (fun _ h9 => h9) rfl dX9_feed_67 ?_
                                      refine lv_iload hx hb dX9_feed_70 (lv_at hl 0 rfl) ?_
                                      refine lv_iadd hx hb dX9_feed_72 ?_
                                      refine t_i 16 (by decide) ?_
                                      refine lv_aload_n hx hb dX9_feed_73 rfl (lv_at hl 1 rfl) ?_
                                      refine va_get (D := (dC, dI)) (ci := 9) (v := .ref (g 6)) (C := RX9) (T := TX9) (N := 61) hx hb hT inT9 hown hK hP 0 rfl rfl 6 (by decide) (hT _ mw_15) (fun _ h9 => h9) rfl dX9_feed_74 ?_
                                      refine lv_iload hx hb dX9_feed_77 (lv_at hl 0 rfl) ?_
                                      refine lv_iconst (v := 4) hx hb dX9_feed_79 (by decide) ?_
                                      refine lv_idiv hx hb dX9_feed_80 (by decide) ?_
                                      refine t_i 4 (by decide) ?_
                                      refine va_iald hx hb hK hP 1 0 rfl rfl (by unfold vp_in; decide) dX9_feed_81 ?_
                                      refine lv_topi (fun z88 _ => ?_)
                                      refine lv_bipush (v := 24) hx hb dX9_feed_82 (by decide) ?_
                                      refine lv_bipush (v := 8) hx hb dX9_feed_84 (by decide) ?_
                                      refine lv_iload hx hb dX9_feed_86 (lv_at hl 0 rfl) ?_
                                      refine lv_iconst (v := 4) hx hb dX9_feed_88 (by decide) ?_
                                      refine lv_irem hx hb dX9_feed_89 (by decide) ?_
                                      refine t_i 0 (by decide) ?_
                                      refine lv_imul hx hb dX9_feed_90 ?_
                                      refine t_i 0 (by decide) ?_
                                      refine lv_isub hx hb dX9_feed_91 ?_
                                      refine t_i 24 (by decide) ?_
                                      refine lv_ishr hx hb dX9_feed_92 ?_
                                      refine lv_topi (fun z89 _ => ?_)
                                      refine lv_i2b hx hb dX9_feed_93 rfl ?_
                                      refine lv_topi (fun z90 _ => ?_)
                                      refine va_bast hx hb hK hP hD hS 2 1 rfl rfl (by unfold vp_in; decide) dX9_feed_94 (fun H locs hP hD hS => ?_)
                                      have hP : va_P (dC, dI) vwCl [((g 0), .inr (9, oM g 0 0 0 0 0 0 (-1))), ((g 6), .inl ((a 6), 5, .inl f6)), ((g 4), .inl ((a 4), 500, .inl (upd f86 (16 : Int32).toNatClampNeg (vp_nar .byte z90))))] H := hP
                                      have hD : va_D A [((g 0), .inr (9, oM g 0 0 0 0 0 0 (-1))), ((g 6), .inl ((a 6), 5, .inl f6)), ((g 4), .inl ((a 4), 500, .inl (upd f86 (16 : Int32).toNatClampNeg (vp_nar .byte z90))))] := hD
                                      generalize (upd f86 (16 : Int32).toNatClampNeg (vp_nar .byte z90)) = f91 at hP hD
                                      refine lv_iinc (v := 17) (lv' := [(6, .int 17), (0, .ref (g 0)), (1, .int p0), (2, .int p1), (3, .int p2), (4, .int p3), (5, .int p4)]) hx hb dX9_feed_95 hl (k := 0) rfl (by decide) (by decide) rfl (fun ls hl => ?_)
                                      refine lv_goto (tgt := 55) hx hb dX9_feed_98 (by decide) ?_
                                      refine lv_iload hx hb dX9_feed_55 (lv_at hl 0 rfl) ?_
                                      refine lv_bipush (v := 20) hx hb dX9_feed_57 (by decide) ?_
                                      refine lv_icmp_ge (tgt := 101) hx hb dX9_feed_59 (by decide) (fun c92 => ?_) (fun c92 => ?_)
                                      · exact absurd c92 (by decide)
                                      · refine lv_aload_n hx hb dX9_feed_62 rfl (lv_at hl 1 rfl) ?_
                                        refine va_get (D := (dC, dI)) (ci := 9) (v := .ref (g 4)) (C := RX9) (T := TX9) (N := 61) hx hb hT inT9 hown hK hP 0 rfl rfl 4 (by decide) (hT _ mw_16) (fun _ h9 => h9) rfl dX9_feed_63 ?_
                                        refine lv_aload_n hx hb dX9_feed_66 rfl (lv_at hl 1 rfl) ?_
                                        refine va_get (D := (dC, dI)) (ci := 9) (v := .int 0) (C := RX9) (T := TX9) (N := 61) hx hb hT inT9 hown hK hP 0 rfl rfl 5 (by decide) (hT _ mw_14) (fun _ h9 => h9) rfl dX9_feed_67 ?_
                                        refine lv_iload hx hb dX9_feed_70 (lv_at hl 0 rfl) ?_
                                        refine lv_iadd hx hb dX9_feed_72 ?_
                                        refine t_i 17 (by decide) ?_
                                        refine lv_aload_n hx hb dX9_feed_73 rfl (lv_at hl 1 rfl) ?_
                                        refine va_get (D := (dC, dI)) (ci := 9) (v := .ref (g 6)) (C := RX9) (T := TX9) (N := 61) hx hb hT inT9 hown hK hP 0 rfl rfl 6 (by decide) (hT _ mw_15) (fun _ h9 => h9) rfl dX9_feed_74 ?_
                                        refine lv_iload hx hb dX9_feed_77 (lv_at hl 0 rfl) ?_
                                        refine lv_iconst (v := 4) hx hb dX9_feed_79 (by decide) ?_
                                        refine lv_idiv hx hb dX9_feed_80 (by decide) ?_
                                        refine t_i 4 (by decide) ?_
                                        refine va_iald hx hb hK hP 1 0 rfl rfl (by unfold vp_in; decide) dX9_feed_81 ?_
                                        refine lv_topi (fun z93 _ => ?_)
                                        refine lv_bipush (v := 24) hx hb dX9_feed_82 (by decide) ?_
                                        refine lv_bipush (v := 8) hx hb dX9_feed_84 (by decide) ?_
                                        refine lv_iload hx hb dX9_feed_86 (lv_at hl 0 rfl) ?_
                                        refine lv_iconst (v := 4) hx hb dX9_feed_88 (by decide) ?_
                                        refine lv_irem hx hb dX9_feed_89 (by decide) ?_
                                        refine t_i 1 (by decide) ?_
                                        refine lv_imul hx hb dX9_feed_90 ?_
                                        refine t_i 8 (by decide) ?_
                                        refine lv_isub hx hb dX9_feed_91 ?_
                                        refine t_i 16 (by decide) ?_
                                        refine lv_ishr hx hb dX9_feed_92 ?_
                                        refine lv_topi (fun z94 _ => ?_)
                                        refine lv_i2b hx hb dX9_feed_93 rfl ?_
                                        refine lv_topi (fun z95 _ => ?_)
                                        refine va_bast hx hb hK hP hD hS 2 1 rfl rfl (by unfold vp_in; decide) dX9_feed_94 (fun H locs hP hD hS => ?_)
                                        have hP : va_P (dC, dI) vwCl [((g 0), .inr (9, oM g 0 0 0 0 0 0 (-1))), ((g 6), .inl ((a 6), 5, .inl f6)), ((g 4), .inl ((a 4), 500, .inl (upd f91 (17 : Int32).toNatClampNeg (vp_nar .byte z95))))] H := hP
                                        have hD : va_D A [((g 0), .inr (9, oM g 0 0 0 0 0 0 (-1))), ((g 6), .inl ((a 6), 5, .inl f6)), ((g 4), .inl ((a 4), 500, .inl (upd f91 (17 : Int32).toNatClampNeg (vp_nar .byte z95))))] := hD
                                        generalize (upd f91 (17 : Int32).toNatClampNeg (vp_nar .byte z95)) = f96 at hP hD
                                        refine lv_iinc (v := 18) (lv' := [(6, .int 18), (0, .ref (g 0)), (1, .int p0), (2, .int p1), (3, .int p2), (4, .int p3), (5, .int p4)]) hx hb dX9_feed_95 hl (k := 0) rfl (by decide) (by decide) rfl (fun ls hl => ?_)
                                        refine lv_goto (tgt := 55) hx hb dX9_feed_98 (by decide) ?_
                                        refine lv_iload hx hb dX9_feed_55 (lv_at hl 0 rfl) ?_
                                        refine lv_bipush (v := 20) hx hb dX9_feed_57 (by decide) ?_
                                        refine lv_icmp_ge (tgt := 101) hx hb dX9_feed_59 (by decide) (fun c97 => ?_) (fun c97 => ?_)
                                        · exact absurd c97 (by decide)
                                        · refine lv_aload_n hx hb dX9_feed_62 rfl (lv_at hl 1 rfl) ?_
                                          refine va_get (D := (dC, dI)) (ci := 9) (v := .ref (g 4)) (C := RX9) (T := TX9) (N := 61) hx hb hT inT9 hown hK hP 0 rfl rfl 4 (by decide) (hT _ mw_16) (fun _ h9 => h9) rfl dX9_feed_63 ?_
                                          refine lv_aload_n hx hb dX9_feed_66 rfl (lv_at hl 1 rfl) ?_
                                          refine va_get (D := (dC, dI)) (ci := 9) (v := .int 0) (C := RX9) (T := TX9) (N := 61) hx hb hT inT9 hown hK hP 0 rfl rfl 5 (by decide) (hT _ mw_14) (fun _ h9 => h9) rfl dX9_feed_67 ?_
                                          refine lv_iload hx hb dX9_feed_70 (lv_at hl 0 rfl) ?_
                                          refine lv_iadd hx hb dX9_feed_72 ?_
                                          refine t_i 18 (by decide) ?_
                                          refine lv_aload_n hx hb dX9_feed_73 rfl (lv_at hl 1 rfl) ?_
                                          refine va_get (D := (dC, dI)) (ci := 9) (v := .ref (g 6)) (C := RX9) (T := TX9) (N := 61) hx hb hT inT9 hown hK hP 0 rfl rfl 6 (by decide) (hT _ mw_15) (fun _ h9 => h9) rfl dX9_feed_74 ?_
                                          refine lv_iload hx hb dX9_feed_77 (lv_at hl 0 rfl) ?_
                                          refine lv_iconst (v := 4) hx hb dX9_feed_79 (by decide) ?_
                                          refine lv_idiv hx hb dX9_feed_80 (by decide) ?_
                                          refine t_i 4 (by decide) ?_
                                          refine va_iald hx hb hK hP 1 0 rfl rfl (by unfold vp_in; decide) dX9_feed_81 ?_
                                          refine lv_topi (fun z98 _ => ?_)
                                          refine lv_bipush (v := 24) hx hb dX9_feed_82 (by decide) ?_
                                          refine lv_bipush (v := 8) hx hb dX9_feed_84 (by decide) ?_
                                          refine lv_iload hx hb dX9_feed_86 (lv_at hl 0 rfl) ?_
                                          refine lv_iconst (v := 4) hx hb dX9_feed_88 (by decide) ?_
                                          refine lv_irem hx hb dX9_feed_89 (by decide) ?_
                                          refine t_i 2 (by decide) ?_
                                          refine lv_imul hx hb dX9_feed_90 ?_
                                          refine t_i 16 (by decide) ?_
                                          refine lv_isub hx hb dX9_feed_91 ?_
                                          refine t_i 8 (by decide) ?_
                                          refine lv_ishr hx hb dX9_feed_92 ?_
                                          refine lv_topi (fun z99 _ => ?_)
                                          refine lv_i2b hx hb dX9_feed_93 rfl ?_
                                          refine lv_topi (fun z100 _ => ?_)
                                          refine va_bast hx hb hK hP hD hS 2 1 rfl rfl (by unfold vp_in; decide) dX9_feed_94 (fun H locs hP hD hS => ?_)
                                          have hP : va_P (dC, dI) vwCl [((g 0), .inr (9, oM g 0 0 0 0 0 0 (-1))), ((g 6), .inl ((a 6), 5, .inl f6)), ((g 4), .inl ((a 4), 500, .inl (upd f96 (18 : Int32).toNatClampNeg (vp_nar .byte z100))))] H := hP
                                          have hD : va_D A [((g 0), .inr (9, oM g 0 0 0 0 0 0 (-1))), ((g 6), .inl ((a 6), 5, .inl f6)), ((g 4), .inl ((a 4), 500, .inl (upd f96 (18 : Int32).toNatClampNeg (vp_nar .byte z100))))] := hD
                                          generalize (upd f96 (18 : Int32).toNatClampNeg (vp_nar .byte z100)) = f101 at hP hD
                                          refine lv_iinc (v := 19) (lv' := [(6, .int 19), (0, .ref (g 0)), (1, .int p0), (2, .int p1), (3, .int p2), (4, .int p3), (5, .int p4)]) hx hb dX9_feed_95 hl (k := 0) rfl (by decide) (by decide) rfl (fun ls hl => ?_)
                                          refine lv_goto (tgt := 55) hx hb dX9_feed_98 (by decide) ?_
                                          refine lv_iload hx hb dX9_feed_55 (lv_at hl 0 rfl) ?_
                                          refine lv_bipush (v := 20) hx hb dX9_feed_57 (by decide) ?_
                                          refine lv_icmp_ge (tgt := 101) hx hb dX9_feed_59 (by decide) (fun c102 => ?_) (fun c102 => ?_)
                                          · exact absurd c102 (by decide)
                                          · refine lv_aload_n hx hb dX9_feed_62 rfl (lv_at hl 1 rfl) ?_
                                            refine va_get (D := (dC, dI)) (ci := 9) (v := .ref (g 4)) (C := RX9) (T := TX9) (N := 61) hx hb hT inT9 hown hK hP 0 rfl rfl 4 (by decide) (hT _ mw_16) (fun _ h9 => h9) rfl dX9_feed_63 ?_
                                            refine lv_aload_n hx hb dX9_feed_66 rfl (lv_at hl 1 rfl) ?_
                                            refine va_get (D := (dC, dI)) (ci := 9) (v := .int 0) (C := RX9) (T := TX9) (N := 61) hx hb hT inT9 hown hK hP 0 rfl rfl 5 (by decide) (hT _ mw_14) (fun _ h9 => h9) rfl dX9_feed_67 ?_
                                            refine lv_iload hx hb dX9_feed_70 (lv_at hl 0 rfl) ?_
                                            refine lv_iadd hx hb dX9_feed_72 ?_
                                            refine t_i 19 (by decide) ?_
                                            refine lv_aload_n hx hb dX9_feed_73 rfl (lv_at hl 1 rfl) ?_
                                            refine va_get (D := (dC, dI)) (ci := 9) (v := .ref (g 6)) (C := RX9) (T := TX9) (N := 61) hx hb hT inT9 hown hK hP 0 rfl rfl 6 (by decide) (hT _ mw_15) (fun _ h9 => h9) rfl dX9_feed_74 ?_
                                            refine lv_iload hx hb dX9_feed_77 (lv_at hl 0 rfl) ?_
                                            refine lv_iconst (v := 4) hx hb dX9_feed_79 (by decide) ?_
                                            refine lv_idiv hx hb dX9_feed_80 (by decide) ?_
                                            refine t_i 4 (by decide) ?_
                                            refine va_iald hx hb hK hP 1 0 rfl rfl (by unfold vp_in; decide) dX9_feed_81 ?_
                                            refine lv_topi (fun z103 _ => ?_)
                                            refine lv_bipush (v := 24) hx hb dX9_feed_82 (by decide) ?_
                                            refine lv_bipush (v := 8) hx hb dX9_feed_84 (by decide) ?_
                                            refine lv_iload hx hb dX9_feed_86 (lv_at hl 0 rfl) ?_
                                            refine lv_iconst (v := 4) hx hb dX9_feed_88 (by decide) ?_
                                            refine lv_irem hx hb dX9_feed_89 (by decide) ?_
                                            refine t_i 3 (by decide) ?_
                                            refine lv_imul hx hb dX9_feed_90 ?_
                                            refine t_i 24 (by decide) ?_
                                            refine lv_isub hx hb dX9_feed_91 ?_
                                            refine t_i 0 (by decide) ?_
                                            refine lv_ishr hx hb dX9_feed_92 ?_
                                            refine lv_topi (fun z104 _ => ?_)
                                            refine lv_i2b hx hb dX9_feed_93 rfl ?_
                                            refine lv_topi (fun z105 _ => ?_)
                                            refine va_bast hx hb hK hP hD hS 2 1 rfl rfl (by unfold vp_in; decide) dX9_feed_94 (fun H locs hP hD hS => ?_)
                                            have hP : va_P (dC, dI) vwCl [((g 0), .inr (9, oM g 0 0 0 0 0 0 (-1))), ((g 6), .inl ((a 6), 5, .inl f6)), ((g 4), .inl ((a 4), 500, .inl (upd f101 (19 : Int32).toNatClampNeg (vp_nar .byte z105))))] H := hP
                                            have hD : va_D A [((g 0), .inr (9, oM g 0 0 0 0 0 0 (-1))), ((g 6), .inl ((a 6), 5, .inl f6)), ((g 4), .inl ((a 4), 500, .inl (upd f101 (19 : Int32).toNatClampNeg (vp_nar .byte z105))))] := hD
                                            generalize (upd f101 (19 : Int32).toNatClampNeg (vp_nar .byte z105)) = f106 at hP hD
                                            refine lv_iinc (v := 20) (lv' := [(6, .int 20), (0, .ref (g 0)), (1, .int p0), (2, .int p1), (3, .int p2), (4, .int p3), (5, .int p4)]) hx hb dX9_feed_95 hl (k := 0) rfl (by decide) (by decide) rfl (fun ls hl => ?_)
                                            refine lv_goto (tgt := 55) hx hb dX9_feed_98 (by decide) ?_
                                            refine lv_iload hx hb dX9_feed_55 (lv_at hl 0 rfl) ?_
                                            refine lv_bipush (v := 20) hx hb dX9_feed_57 (by decide) ?_
                                            refine lv_icmp_ge (tgt := 101) hx hb dX9_feed_59 (by decide) (fun c107 => ?_) (fun c107 => ?_)
                                            · refine lv_aload_n hx hb dX9_feed_101 rfl (lv_at hl 1 rfl) ?_
                                              refine lv_dup hx hb dX9_feed_102 rfl ?_
                                              refine va_get (D := (dC, dI)) (ci := 9) (v := .int 0) (C := RX9) (T := TX9) (N := 61) hx hb hT inT9 hown hK hP 0 rfl rfl 5 (by decide) (hT _ mw_14) (fun _ h9 => h9) rfl dX9_feed_103 ?_
                                              refine lv_bipush (v := 20) hx hb dX9_feed_106 (by decide) ?_
                                              refine lv_iadd hx hb dX9_feed_108 ?_
                                              refine t_i 20 (by decide) ?_
                                              refine va_put (D := (dC, dI)) (ci := 9) (v := .int 20) (ty := .int) (C := RX9) (T := TX9) (N := 61) hx hb hT inT9 tyX9 tyX9_ok nmX9 hown hK hP hD hS 0 rfl rfl 5 (by decide) (hT _ mw_14) (fun _ h9 => h9) rfl (by decide +kernel) rfl rfl (Nat.le_of_ble_eq_true rfl) dX9_feed_109 (fun H locs hP hD hS => ?_)
                                              have hP : va_P (dC, dI) vwCl [((g 0), .inr (9, oM g 20 0 0 0 0 0 (-1))), ((g 6), .inl ((a 6), 5, .inl f6)), ((g 4), .inl ((a 4), 500, .inl f106))] H := hP
                                              have hD : va_D A [((g 0), .inr (9, oM g 20 0 0 0 0 0 (-1))), ((g 6), .inl ((a 6), 5, .inl f6)), ((g 4), .inl ((a 4), 500, .inl f106))] := hD
                                              refine lv_aload_n hx hb dX9_feed_112 rfl (lv_at hl 1 rfl) ?_
                                              refine va_get (D := (dC, dI)) (ci := 9) (v := .int 20) (C := RX9) (T := TX9) (N := 61) hx hb hT inT9 hown hK hP 0 rfl rfl 5 (by decide) (hT _ mw_14) (fun _ h9 => h9) rfl dX9_feed_113 ?_
                                              exact e_i hx hb hr hlocks hP hD hS (fun _ => 0) [] rfl rfl rfl dX9_feed_116
                                            · exact absurd c107 (by decide)
  · exact absurd c1 (by decide)
