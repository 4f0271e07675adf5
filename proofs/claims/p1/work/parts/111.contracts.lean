set_option maxRecDepth 100000 in
set_option maxHeartbeats 4000000 in
theorem k_X8_back (l : Launch) (dC : Nat → ClassId) (dI : Nat → Nat → Nat) (g : Nat → Nat) (a : Nat → ClassId) (p0 : Int32)  : MI l dC dI yX8_back (Cond.code yX8_back cX8_back 2 (some .int)) ({ frames := 0, cells := 0, slots := 0, locals := 0 }) [.ref (g 0), .int p0] [((a 65), .boolean)] [((g 0), .inr (8, [.ref (g 1), .ref (g 2), .ref (g 4), .ref (g 16), .ref (g 64), .ref (g 65), .ref (g 66), .ref (g 70), .ref (g 75), .ref (g 87), .ref (g 94), .int 0, .int 0, .int 0])), ((g 65), .inl ((a 65), 3, .inl (fun _ => 0)))] (fun r : Int32 => r = s_back p0.toInt) (fun f => []) := by
  refine m_of (Qc := fun A => QI dC dI A (fun r : Int32 => r = s_back p0.toInt) (fun f => [])) (lv := [(0, .ref (g 0)), (1, .int p0)]) (by decide) (Nat.le_of_ble_eq_true rfl) rfl ?_
  intro p e s m below meth c A ls hx hb hr hml hT hown hlocks hname hP hK hD hS hA hl
  have hown : s.vm.findClass RX8 = some m.cls := hown
  refine lv_iload_n hx hb dX8_back_0 rfl (lv_at hl 1 rfl) ?_
  refine lv_if_lt (tgt := 9) hx hb dX8_back_1 (by decide) (fun c1 => ?_) (fun c1 => ?_)
  · have c1 := i_lt p0.toInt 0 rfl (by decide) c1
    refine lv_bipush (v := (-2)) hx hb dX8_back_9 (by decide) ?_
    exact e_i hx hb hr hlocks hP hD hS (fun _ => 0) [] rfl rfl (by unfold s_back; (repeat' split) <;> first | rfl | omega) dX8_back_11
  · have c1 := i_nlt p0.toInt 0 rfl (by decide) c1
    refine lv_iload_n hx hb dX8_back_4 rfl (lv_at hl 1 rfl) ?_
    refine lv_iconst (v := 3) hx hb dX8_back_5 (by decide) ?_
    refine lv_icmp_lt (tgt := 12) hx hb dX8_back_6 (by decide) (fun c2 => ?_) (fun c2 => ?_)
    · have c2 := i_lt p0.toInt 3 rfl (by decide) c2
      refine lv_aload_n hx hb dX8_back_12 rfl (lv_at hl 0 rfl) ?_
      refine va_get (D := (dC, dI)) (ci := 8) (v := .ref (g 65)) (C := RX8) (T := TX8) (N := 14) hx hb hT inT8 hown hK hP 0 rfl rfl 5 (by decide) (hT _ mw_278) (fun _ h9 => h9) rfl dX8_back_13 ?_
      refine lv_iload_n hx hb dX8_back_16 rfl (lv_at hl 1 rfl) ?_
      refine va_zald hx hb hK hP 1 0 rfl rfl (i_in (by omega) (by omega)) dX8_back_17 ?_
      refine t_i 0 rfl ?_
      refine lv_if_ne (tgt := 24) hx hb dX8_back_18 (by decide) (fun c3 => ?_) (fun c3 => ?_)
      · exact absurd c3 (by decide)
      · refine lv_bipush (v := (-6)) hx hb dX8_back_21 (by decide) ?_
        exact e_i hx hb hr hlocks hP hD hS (fun _ => 0) [] rfl rfl (by unfold s_back; (repeat' split) <;> first | rfl | omega) dX8_back_23
    · have c2 := i_nlt p0.toInt 3 rfl (by decide) c2
      refine lv_bipush (v := (-2)) hx hb dX8_back_9 (by decide) ?_
      exact e_i hx hb hr hlocks hP hD hS (fun _ => 0) [] rfl rfl (by unfold s_back; (repeat' split) <;> first | rfl | omega) dX8_back_11
set_option maxRecDepth 100000 in
set_option maxHeartbeats 4000000 in
theorem k_X9_back (l : Launch) (dC : Nat → ClassId) (dI : Nat → Nat → Nat) (g : Nat → Nat) (a : Nat → ClassId) (p0 : Int32)  : MI l dC dI yX9_back (Cond.code yX9_back cX9_back 3 (some .int)) ({ frames := 1, cells := 0, slots := 0, locals := 25 }) [.ref (g 0), .int p0] [((a 3), .boolean)] [((g 0), .inr (9, oM g 0 0 0 0 0 0 (-1))), ((g 3), .inl ((a 3), 3, .inl (fun _ => 0)))] (fun r : Int32 => r = s_back p0.toInt) (fun f => []) := by
  refine m_of (Qc := fun A => QI dC dI A (fun r : Int32 => r = s_back p0.toInt) (fun f => [])) (lv := [(0, .ref (g 0)), (1, .int p0)]) (by decide) (Nat.le_of_ble_eq_true rfl) rfl ?_
  intro p e s m below meth c A ls hx hb hr hml hT hown hlocks hname hP hK hD hS hA hl
  have hown : s.vm.findClass RX9 = some m.cls := hown
  refine lv_iload_n hx hb dX9_back_0 rfl (lv_at hl 1 rfl) ?_
  refine lv_i2l (v := p0.toInt64) hx hb dX9_back_1 rfl ?_
  refine lv_lconst (v := 0) hx hb dX9_back_2 (by decide) ?_
  refine lv_ldc2 (v := 2) hx hb hown (hT _ mw_279) dX9_back_3 ?_
  refine c_Si (As := [.long p0.toInt64, .long 0, .long 2]) (rest := []) (wr := [((g 0), .inr (9, oM g 0 0 0 0 0 0 (-1))), ((g 3), .inl ((a 3), 3, .inl (fun _ => 0)))]) (n := 3) ⟨hx, hb, hml, hown, hT⟩ (k_X9_in l dC dI g a p0.toInt64 0 2 p0.toInt 0 2 (Int32.toInt_toInt64 _) (by decide) (by decide)) hK hP hD hS hA [] rfl [] [0, 1] rfl rfl rfl rfl (by decide) mw_17 mw_18 mw_19 mw_20 (by decide +kernel) ⟨Nat.le_of_ble_eq_true rfl, Nat.le_of_ble_eq_true rfl⟩ ⟨rfl, rfl⟩ rfl hl.1 (Nat.le_of_ble_eq_true rfl) rfl dX9_back_6 ⟨Nat.zero_le _, Nat.zero_le _⟩ (fun r f1 H locs er hP hD hS => ?_)
  have hP : va_P (dC, dI) vwCl [((g 0), .inr (9, oM g 0 0 0 0 0 0 (-1))), ((g 3), .inl ((a 3), 3, .inl (fun _ => 0)))] H := hP
  have hD : va_D A [((g 0), .inr (9, oM g 0 0 0 0 0 0 (-1))), ((g 3), .inl ((a 3), 3, .inl (fun _ => 0)))] := hD
  by_cases hc : (0 : Int) ≤ p0.toInt ∧ p0.toInt ≤ (2 : Int)
  · have er : r = 1 := er.trans (if_pos hc)
    subst er
    refine lv_if_ne (tgt := 15) hx hb dX9_back_9 (by decide) (fun c2 => ?_) (fun c2 => ?_)
    · refine lv_aload_n hx hb dX9_back_15 rfl (lv_at hl 0 rfl) ?_
      refine va_get (D := (dC, dI)) (ci := 9) (v := .ref (g 3)) (C := RX9) (T := TX9) (N := 61) hx hb hT inT9 hown hK hP 0 rfl rfl 3 (by decide) (hT _ mw_280) (fun _ h9 => h9) rfl dX9_back_16 ?_
      refine lv_iload_n hx hb dX9_back_19 rfl (lv_at hl 1 rfl) ?_
      refine va_zald hx hb hK hP 1 0 rfl rfl (i_in (by omega) (by omega)) dX9_back_20 ?_
      refine t_i 0 rfl ?_
      refine lv_if_ne (tgt := 27) hx hb dX9_back_21 (by decide) (fun c3 => ?_) (fun c3 => ?_)
      · exact absurd c3 (by decide)
      · refine lv_bipush (v := (-6)) hx hb dX9_back_24 (by decide) ?_
        exact e_i hx hb hr hlocks hP hD hS (fun _ => 0) [] rfl rfl (by unfold s_back; (repeat' split) <;> first | rfl | omega) dX9_back_26
    · exact absurd c2 (by decide)
  · have er : r = 0 := er.trans (if_neg hc)
    subst er
    refine lv_if_ne (tgt := 15) hx hb dX9_back_9 (by decide) (fun c4 => ?_) (fun c4 => ?_)
    · exact absurd c4 (by decide)
    · refine lv_bipush (v := (-2)) hx hb dX9_back_12 (by decide) ?_
      exact e_i hx hb hr hlocks hP hD hS (fun _ => 0) [] rfl rfl (by unfold s_back; (repeat' split) <;> first | rfl | omega) dX9_back_14
set_option maxRecDepth 100000 in
set_option maxHeartbeats 4000000 in
theorem k_X5_isSlot_2 (l : Launch) (dC : Nat → ClassId) (dI : Nat → Nat → Nat) (g : Nat → Nat) (a : Nat → ClassId)   : MI l dC dI yX5_isSlot (Cond.code yX5_isSlot cX5_isSlot 2 (some .boolean)) ({ frames := 0, cells := 0, slots := 0, locals := 0 }) [.ref (g 66), .int 0] [] [((g 66), .inr (5, [.ref (g 67), .ref (g 68), .ref (g 69)]))] (fun r : Int32 => r = 1) (fun f => [((g 66), .inr (5, [.ref (g 67), .ref (g 68), .ref (g 69)]))]) := by
  refine m_of (Qc := fun A => QI dC dI A (fun r : Int32 => r = 1) (fun f => [((g 66), .inr (5, [.ref (g 67), .ref (g 68), .ref (g 69)]))])) (lv := [(0, .ref (g 66)), (1, .int 0)]) (by decide) (Nat.le_of_ble_eq_true rfl) rfl ?_
  intro p e s m below meth c A ls hx hb hr hml hT hown hlocks hname hP hK hD hS hA hl
  have hown : s.vm.findClass RX5 = some m.cls := hown
  refine lv_iload_n hx hb dX5_isSlot_0 rfl (lv_at hl 1 rfl) ?_
  refine lv_if_lt (tgt := 13) hx hb dX5_isSlot_1 (by decide) (fun c1 => ?_) (fun c1 => ?_)
  · exact absurd c1 (by decide)
  · refine lv_iload_n hx hb dX5_isSlot_4 rfl (lv_at hl 1 rfl) ?_
    refine lv_iconst (v := 4) hx hb dX5_isSlot_5 (by decide) ?_
    refine lv_icmp_ge (tgt := 13) hx hb dX5_isSlot_6 (by decide) (fun c2 => ?_) (fun c2 => ?_)
    · exact absurd c2 (by decide)
    · refine lv_iconst (v := 1) hx hb dX5_isSlot_9 (by decide) ?_
      refine lv_goto (tgt := 14) hx hb dX5_isSlot_10 (by decide) ?_
      exact e_z hx hb hr hlocks hP hD hS (fun _ => 0) [0] rfl rfl rfl rfl dX5_isSlot_14
set_option maxRecDepth 100000 in
set_option maxHeartbeats 4000000 in
theorem k_X5_makeRow (l : Launch) (dC : Nat → ClassId) (dI : Nat → Nat → Nat) (g : Nat → Nat) (a : Nat → ClassId) (p0 : Int32) (p1 : Int32)  : MV l dC dI yX5_makeRow (Cond.code yX5_makeRow cX5_makeRow 5 none) ({ frames := 0, cells := 0, slots := 0, locals := 0 }) [.ref (g 66), .int 0, .int p0, .int p1] [((a 69), .int), ((a 68), .int), ((a 67), .long)] [((g 66), .inr (5, [.ref (g 67), .ref (g 68), .ref (g 69)])), ((g 69), .inl ((a 69), 4, .inl (fun _ => 0))), ((g 68), .inl ((a 68), 4, .inl nF)), ((g 67), .inl ((a 67), 240, .inr (.inl (fun _ => 0))))] (fun f => [((g 66), .inr (5, [.ref (g 67), .ref (g 68), .ref (g 69)])), ((g 67), .inl ((a 67), 240, .inr (.inl (fun _ => 0))))]) := by
  refine m_of (Qc := fun A => QV dC dI A (fun f => [((g 66), .inr (5, [.ref (g 67), .ref (g 68), .ref (g 69)])), ((g 67), .inl ((a 67), 240, .inr (.inl (fun _ => 0))))])) (lv := [(0, .ref (g 66)), (1, .int 0), (2, .int p0), (3, .int p1)]) (by decide) (Nat.le_of_ble_eq_true rfl) rfl ?_
  intro p e s m below meth c A ls hx hb hr hml hT hown hlocks hname hP hK hD hS hA hl
  have hown : s.vm.findClass RX5 = some m.cls := hown
  refine lv_aload_n hx hb dX5_makeRow_0 rfl (lv_at hl 0 rfl) ?_
  refine va_get (D := (dC, dI)) (ci := 5) (v := .ref (g 69)) (C := RX5) (T := TX5) (N := 3) hx hb hT inT5 hown hK hP 0 rfl rfl 2 (by decide) (hT _ mw_282) (fun _ h9 => h9) rfl dX5_makeRow_1 ?_
  refine lv_iload_n hx hb dX5_makeRow_4 rfl (lv_at hl 1 rfl) ?_
  refine lv_iload_n hx hb dX5_makeRow_5 rfl (lv_at hl 2 rfl) ?_
  refine va_iast hx hb hK hP hD hS 1 0 rfl rfl (by unfold vp_in; decide) dX5_makeRow_6 (fun H locs hP hD hS => ?_)
  have hP : va_P (dC, dI) vwCl [((g 66), .inr (5, [.ref (g 67), .ref (g 68), .ref (g 69)])), ((g 69), .inl ((a 69), 4, .inl (upd (fun _ => 0) (0 : Int32).toNatClampNeg p0))), ((g 68), .inl ((a 68), 4, .inl nF)), ((g 67), .inl ((a 67), 240, .inr (.inl (fun _ => 0))))] H := hP
  have hD : va_D A [((g 66), .inr (5, [.ref (g 67), .ref (g 68), .ref (g 69)])), ((g 69), .inl ((a 69), 4, .inl (upd (fun _ => 0) (0 : Int32).toNatClampNeg p0))), ((g 68), .inl ((a 68), 4, .inl nF)), ((g 67), .inl ((a 67), 240, .inr (.inl (fun _ => 0))))] := hD
  generalize (upd (fun _ => 0) (0 : Int32).toNatClampNeg p0) = f1 at hP hD
  refine lv_aload_n hx hb dX5_makeRow_7 rfl (lv_at hl 0 rfl) ?_
  refine va_get (D := (dC, dI)) (ci := 5) (v := .ref (g 68)) (C := RX5) (T := TX5) (N := 3) hx hb hT inT5 hown hK hP 0 rfl rfl 1 (by decide) (hT _ mw_266) (fun _ h9 => h9) rfl dX5_makeRow_8 ?_
  refine lv_iload_n hx hb dX5_makeRow_11 rfl (lv_at hl 1 rfl) ?_
  refine lv_iload_n hx hb dX5_makeRow_12 rfl (lv_at hl 3 rfl) ?_
  refine va_iast hx hb hK hP hD hS 2 1 rfl rfl (by unfold vp_in; decide) dX5_makeRow_13 (fun H locs hP hD hS => ?_)
  have hP : va_P (dC, dI) vwCl [((g 66), .inr (5, [.ref (g 67), .ref (g 68), .ref (g 69)])), ((g 69), .inl ((a 69), 4, .inl f1)), ((g 68), .inl ((a 68), 4, .inl (upd nF (0 : Int32).toNatClampNeg p1))), ((g 67), .inl ((a 67), 240, .inr (.inl (fun _ => 0))))] H := hP
  have hD : va_D A [((g 66), .inr (5, [.ref (g 67), .ref (g 68), .ref (g 69)])), ((g 69), .inl ((a 69), 4, .inl f1)), ((g 68), .inl ((a 68), 4, .inl (upd nF (0 : Int32).toNatClampNeg p1))), ((g 67), .inl ((a 67), 240, .inr (.inl (fun _ => 0))))] := hD
  generalize (upd nF (0 : Int32).toNatClampNeg p1) = f2 at hP hD
  refine lv_iconst (v := 0) hx hb dX5_makeRow_14 (by decide) ?_
  refine lv_istore (lv' := [(4, .int 0), (0, .ref (g 66)), (1, .int 0), (2, .int p0), (3, .int p1)]) hx hb dX5_makeRow_15 hl (by decide) rfl (fun ls hl => ?_)
  have loop3 : ∀ (n i3 : Nat) (x3 : Int32) (H : Heap) (locs : List Loc) (ls : Array Slot), i3 ≤ 60 → 60 + 1 ≤ i3 + n → x3 = nI i3 → va_P (dC, dI) vwCl [((g 66), .inr (5, [.ref (g 67), .ref (g 68), .ref (g 69)])), ((g 69), .inl ((a 69), 4, .inl f1)), ((g 68), .inl ((a 68), 4, .inl f2)), ((g 67), .inl ((a 67), 240, .inr (.inl (fun _ => 0))))] H → va_D A [((g 66), .inr (5, [.ref (g 67), .ref (g 68), .ref (g 69)])), ((g 69), .inl ((a 69), 4, .inl f1)), ((g 68), .inl ((a 68), 4, .inl f2)), ((g 67), .inl ((a 67), 240, .inr (.inl (fun _ => 0))))] → va_S A s.heap H locs → lv_has ls 5 [(4, .int x3), (0, .ref (g 66)), (1, .int 0), (2, .int p0), (3, .int p1)] → W p l e ({ frames := 0, cells := 0, slots := 0, locals := 0 }) s m ([.ref (g 66), .int 0, .int p0, .int p1] : List Value).toArray below meth c H locs 0 0 (MQ below (QV dC dI A (fun f => [((g 66), .inr (5, [.ref (g 67), .ref (g 68), .ref (g 69)])), ((g 67), .inl ((a 67), 240, .inr (.inl (fun _ => 0))))])) ([.ref (g 66), .int 0, .int p0, .int p1] : List Value).toArray s 0 0 A) (F0 m 17 ls []) := by
    intro n
    induction n with
    | zero => exact fun i x H locs ls h1 h2 => absurd h2 (by omega)
    | succ n ih3 =>
      intro i3 x3 H locs ls hi hin ex3 hP hD hS hl
      refine lv_iload hx hb dX5_makeRow_17 (lv_at hl 0 rfl) ?_
      refine lv_bipush (v := 60) hx hb dX5_makeRow_19 (by decide) ?_
      refine lv_icmp_ge (tgt := 43) hx hb dX5_makeRow_21 (by decide) (fun cc_ => ?_) (fun cc_ => ?_)
      · exact e_v hx hb hr hlocks hP hD hS (fun _ => 0) [0, 3] rfl rfl dX5_makeRow_43
      · have hlt3 : i3 < 60 := by
          rcases Nat.lt_or_ge i3 60 with q | q
          · exact q
          · exact absurd (by rw [ex3]; exact nI_le q (by omega)) cc_
        refine lv_aload_n hx hb dX5_makeRow_24 rfl (lv_at hl 1 rfl) ?_
        refine va_get (D := (dC, dI)) (ci := 5) (v := .ref (g 67)) (C := RX5) (T := TX5) (N := 3) hx hb hT inT5 hown hK hP 0 rfl rfl 0 (by decide) (hT _ mw_283) (fun _ h9 => h9) rfl dX5_makeRow_25 ?_
        refine lv_iload_n hx hb dX5_makeRow_28 rfl (lv_at hl 2 rfl) ?_
        refine lv_bipush (v := 60) hx hb dX5_makeRow_29 (by decide) ?_
        refine lv_imul hx hb dX5_makeRow_31 ?_
        refine t_i 0 (by decide) ?_
        refine lv_iload hx hb dX5_makeRow_32 (lv_at hl 0 rfl) ?_
        refine lv_iadd hx hb dX5_makeRow_34 ?_
        refine lv_lconst (v := 0) hx hb dX5_makeRow_35 (by decide) ?_
        refine va_last hx hb hK hP hD hS 3 2 rfl rfl (by rw [ex3, show (0 : Int32) = nI 0 from rfl, nI_add]; exact vp_in_nI (by omega) (by decide)) dX5_makeRow_36 (fun H locs hP hD hS => ?_)
        have hP : va_P (dC, dI) vwCl [((g 66), .inr (5, [.ref (g 67), .ref (g 68), .ref (g 69)])), ((g 69), .inl ((a 69), 4, .inl f1)), ((g 68), .inl ((a 68), 4, .inl f2)), ((g 67), .inl ((a 67), 240, .inr (.inl (vp_updL (fun _ => 0) (0 + x3).toNatClampNeg 0))))] H := hP
        have hD : va_D A [((g 66), .inr (5, [.ref (g 67), .ref (g 68), .ref (g 69)])), ((g 69), .inl ((a 69), 4, .inl f1)), ((g 68), .inl ((a 68), 4, .inl f2)), ((g 67), .inl ((a 67), 240, .inr (.inl (vp_updL (fun _ => 0) (0 + x3).toNatClampNeg 0))))] := hD
        rw [u_zl] at hP hD
        obtain ⟨y4, ey4⟩ : ∃ y : Int32, y = x3 + 1 := ⟨_, rfl⟩
        refine lv_iinc (v := y4) (lv' := [(4, .int y4), (0, .ref (g 66)), (1, .int 0), (2, .int p0), (3, .int p1)]) hx hb dX5_makeRow_37 hl (k := 0) rfl (by rw [ey4]; rfl) (by decide) rfl (fun ls hl => ?_)
        refine lv_goto (tgt := 17) hx hb dX5_makeRow_40 (by decide) ?_
        exact ih3 (i3 + 1) _ _ _ _ hlt3 (by omega) (by rw [ey4, ex3]; exact nI_1 i3) hP hD hS (lv_sub hl [0, 1, 2, 3, 4] rfl)
  exact loop3 (60 + 1) 0 0 _ _ _ (Nat.zero_le _) (by omega) nI_0.symm hP hD hS hl
set_option maxRecDepth 100000 in
set_option maxHeartbeats 4000000 in
theorem k_X5_isSlot_3 (l : Launch) (dC : Nat → ClassId) (dI : Nat → Nat → Nat) (g : Nat → Nat) (a : Nat → ClassId)   : MI l dC dI yX5_isSlot (Cond.code yX5_isSlot cX5_isSlot 2 (some .boolean)) ({ frames := 0, cells := 0, slots := 0, locals := 0 }) [.ref (g 66), .int 1] [] [((g 66), .inr (5, [.ref (g 67), .ref (g 68), .ref (g 69)]))] (fun r : Int32 => r = 1) (fun f => [((g 66), .inr (5, [.ref (g 67), .ref (g 68), .ref (g 69)]))]) := by
  refine m_of (Qc := fun A => QI dC dI A (fun r : Int32 => r = 1) (fun f => [((g 66), .inr (5, [.ref (g 67), .ref (g 68), .ref (g 69)]))])) (lv := [(0, .ref (g 66)), (1, .int 1)]) (by decide) (Nat.le_of_ble_eq_true rfl) rfl ?_
  intro p e s m below meth c A ls hx hb hr hml hT hown hlocks hname hP hK hD hS hA hl
  have hown : s.vm.findClass RX5 = some m.cls := hown
  refine lv_iload_n hx hb dX5_isSlot_0 rfl (lv_at hl 1 rfl) ?_
  refine lv_if_lt (tgt := 13) hx hb dX5_isSlot_1 (by decide) (fun c1 => ?_) (fun c1 => ?_)
  · exact absurd c1 (by decide)
  · refine lv_iload_n hx hb dX5_isSlot_4 rfl (lv_at hl 1 rfl) ?_
    refine lv_iconst (v := 4) hx hb dX5_isSlot_5 (by decide) ?_
    refine lv_icmp_ge (tgt := 13) hx hb dX5_isSlot_6 (by decide) (fun c2 => ?_) (fun c2 => ?_)
    · exact absurd c2 (by decide)
    · refine lv_iconst (v := 1) hx hb dX5_isSlot_9 (by decide) ?_
      refine lv_goto (tgt := 14) hx hb dX5_isSlot_10 (by decide) ?_
      exact e_z hx hb hr hlocks hP hD hS (fun _ => 0) [0] rfl rfl rfl rfl dX5_isSlot_14
set_option maxRecDepth 100000 in
set_option maxHeartbeats 4000000 in
theorem k_X5_makeRow_2 (l : Launch) (dC : Nat → ClassId) (dI : Nat → Nat → Nat) (g : Nat → Nat) (a : Nat → ClassId) (p0 : Int32) (p1 : Int32)  : MV l dC dI yX5_makeRow (Cond.code yX5_makeRow cX5_makeRow 5 none) ({ frames := 0, cells := 0, slots := 0, locals := 0 }) [.ref (g 66), .int 1, .int p0, .int p1] [((a 69), .int), ((a 68), .int), ((a 67), .long)] [((g 66), .inr (5, [.ref (g 67), .ref (g 68), .ref (g 69)])), ((g 69), .inl ((a 69), 4, .inl (fun _ => 0))), ((g 68), .inl ((a 68), 4, .inl nF)), ((g 67), .inl ((a 67), 240, .inr (.inl (fun _ => 0))))] (fun f => [((g 66), .inr (5, [.ref (g 67), .ref (g 68), .ref (g 69)])), ((g 67), .inl ((a 67), 240, .inr (.inl (fun _ => 0))))]) := by
  refine m_of (Qc := fun A => QV dC dI A (fun f => [((g 66), .inr (5, [.ref (g 67), .ref (g 68), .ref (g 69)])), ((g 67), .inl ((a 67), 240, .inr (.inl (fun _ => 0))))])) (lv := [(0, .ref (g 66)), (1, .int 1), (2, .int p0), (3, .int p1)]) (by decide) (Nat.le_of_ble_eq_true rfl) rfl ?_
  intro p e s m below meth c A ls hx hb hr hml hT hown hlocks hname hP hK hD hS hA hl
  have hown : s.vm.findClass RX5 = some m.cls := hown
  refine lv_aload_n hx hb dX5_makeRow_0 rfl (lv_at hl 0 rfl) ?_
  refine va_get (D := (dC, dI)) (ci := 5) (v := .ref (g 69)) (C := RX5) (T := TX5) (N := 3) hx hb hT inT5 hown hK hP 0 rfl rfl 2 (by decide) (hT _ mw_282) (fun _ h9 => h9) rfl dX5_makeRow_1 ?_
  refine lv_iload_n hx hb dX5_makeRow_4 rfl (lv_at hl 1 rfl) ?_
  refine lv_iload_n hx hb dX5_makeRow_5 rfl (lv_at hl 2 rfl) ?_
  refine va_iast hx hb hK hP hD hS 1 0 rfl rfl (by unfold vp_in; decide) dX5_makeRow_6 (fun H locs hP hD hS => ?_)
  have hP : va_P (dC, dI) vwCl [((g 66), .inr (5, [.ref (g 67), .ref (g 68), .ref (g 69)])), ((g 69), .inl ((a 69), 4, .inl (upd (fun _ => 0) (1 : Int32).toNatClampNeg p0))), ((g 68), .inl ((a 68), 4, .inl nF)), ((g 67), .inl ((a 67), 240, .inr (.inl (fun _ => 0))))] H := hP
  have hD : va_D A [((g 66), .inr (5, [.ref (g 67), .ref (g 68), .ref (g 69)])), ((g 69), .inl ((a 69), 4, .inl (upd (fun _ => 0) (1 : Int32).toNatClampNeg p0))), ((g 68), .inl ((a 68), 4, .inl nF)), ((g 67), .inl ((a 67), 240, .inr (.inl (fun _ => 0))))] := hD
  generalize (upd (fun _ => 0) (1 : Int32).toNatClampNeg p0) = f1 at hP hD
  refine lv_aload_n hx hb dX5_makeRow_7 rfl (lv_at hl 0 rfl) ?_
  refine va_get (D := (dC, dI)) (ci := 5) (v := .ref (g 68)) (C := RX5) (T := TX5) (N := 3) hx hb hT inT5 hown hK hP 0 rfl rfl 1 (by decide) (hT _ mw_266) (fun _ h9 => h9) rfl dX5_makeRow_8 ?_
  refine lv_iload_n hx hb dX5_makeRow_11 rfl (lv_at hl 1 rfl) ?_
  refine lv_iload_n hx hb dX5_makeRow_12 rfl (lv_at hl 3 rfl) ?_
  refine va_iast hx hb hK hP hD hS 2 1 rfl rfl (by unfold vp_in; decide) dX5_makeRow_13 (fun H locs hP hD hS => ?_)
  have hP : va_P (dC, dI) vwCl [((g 66), .inr (5, [.ref (g 67), .ref (g 68), .ref (g 69)])), ((g 69), .inl ((a 69), 4, .inl f1)), ((g 68), .inl ((a 68), 4, .inl (upd nF (1 : Int32).toNatClampNeg p1))), ((g 67), .inl ((a 67), 240, .inr (.inl (fun _ => 0))))] H := hP
  have hD : va_D A [((g 66), .inr (5, [.ref (g 67), .ref (g 68), .ref (g 69)])), ((g 69), .inl ((a 69), 4, .inl f1)), ((g 68), .inl ((a 68), 4, .inl (upd nF (1 : Int32).toNatClampNeg p1))), ((g 67), .inl ((a 67), 240, .inr (.inl (fun _ => 0))))] := hD
  generalize (upd nF (1 : Int32).toNatClampNeg p1) = f2 at hP hD
  refine lv_iconst (v := 0) hx hb dX5_makeRow_14 (by decide) ?_
  refine lv_istore (lv' := [(4, .int 0), (0, .ref (g 66)), (1, .int 1), (2, .int p0), (3, .int p1)]) hx hb dX5_makeRow_15 hl (by decide) rfl (fun ls hl => ?_)
  have loop3 : ∀ (n i3 : Nat) (x3 : Int32) (H : Heap) (locs : List Loc) (ls : Array Slot), i3 ≤ 60 → 60 + 1 ≤ i3 + n → x3 = nI i3 → va_P (dC, dI) vwCl [((g 66), .inr (5, [.ref (g 67), .ref (g 68), .ref (g 69)])), ((g 69), .inl ((a 69), 4, .inl f1)), ((g 68), .inl ((a 68), 4, .inl f2)), ((g 67), .inl ((a 67), 240, .inr (.inl (fun _ => 0))))] H → va_D A [((g 66), .inr (5, [.ref (g 67), .ref (g 68), .ref (g 69)])), ((g 69), .inl ((a 69), 4, .inl f1)), ((g 68), .inl ((a 68), 4, .inl f2)), ((g 67), .inl ((a 67), 240, .inr (.inl (fun _ => 0))))] → va_S A s.heap H locs → lv_has ls 5 [(4, .int x3), (0, .ref (g 66)), (1, .int 1), (2, .int p0), (3, .int p1)] → W p l e ({ frames := 0, cells := 0, slots := 0, locals := 0 }) s m ([.ref (g 66), .int 1, .int p0, .int p1] : List Value).toArray below meth c H locs 0 0 (MQ below (QV dC dI A (fun f => [((g 66), .inr (5, [.ref (g 67), .ref (g 68), .ref (g 69)])), ((g 67), .inl ((a 67), 240, .inr (.inl (fun _ => 0))))])) ([.ref (g 66), .int 1, .int p0, .int p1] : List Value).toArray s 0 0 A) (F0 m 17 ls []) := by
    intro n
    induction n with
    | zero => exact fun i x H locs ls h1 h2 => absurd h2 (by omega)
    | succ n ih3 =>
      intro i3 x3 H locs ls hi hin ex3 hP hD hS hl
      refine lv_iload hx hb dX5_makeRow_17 (lv_at hl 0 rfl) ?_
      refine lv_bipush (v := 60) hx hb dX5_makeRow_19 (by decide) ?_
      refine lv_icmp_ge (tgt := 43) hx hb dX5_makeRow_21 (by decide) (fun cc_ => ?_) (fun cc_ => ?_)
      · exact e_v hx hb hr hlocks hP hD hS (fun _ => 0) [0, 3] rfl rfl dX5_makeRow_43
      · have hlt3 : i3 < 60 := by
          rcases Nat.lt_or_ge i3 60 with q | q
          · exact q
          · exact absurd (by rw [ex3]; exact nI_le q (by omega)) cc_
        refine lv_aload_n hx hb dX5_makeRow_24 rfl (lv_at hl 1 rfl) ?_
        refine va_get (D := (dC, dI)) (ci := 5) (v := .ref (g 67)) (C := RX5) (T := TX5) (N := 3) hx hb hT inT5 hown hK hP 0 rfl rfl 0 (by decide) (hT _ mw_283) (fun _ h9 => h9) rfl dX5_makeRow_25 ?_
        refine lv_iload_n hx hb dX5_makeRow_28 rfl (lv_at hl 2 rfl) ?_
        refine lv_bipush (v := 60) hx hb dX5_makeRow_29 (by decide) ?_
        refine lv_imul hx hb dX5_makeRow_31 ?_
        refine t_i 60 (by decide) ?_
        refine lv_iload hx hb dX5_makeRow_32 (lv_at hl 0 rfl) ?_
        refine lv_iadd hx hb dX5_makeRow_34 ?_
        refine lv_lconst (v := 0) hx hb dX5_makeRow_35 (by decide) ?_
        refine va_last hx hb hK hP hD hS 3 2 rfl rfl (by rw [ex3, show (60 : Int32) = nI 60 from rfl, nI_add]; exact vp_in_nI (by omega) (by decide)) dX5_makeRow_36 (fun H locs hP hD hS => ?_)
        have hP : va_P (dC, dI) vwCl [((g 66), .inr (5, [.ref (g 67), .ref (g 68), .ref (g 69)])), ((g 69), .inl ((a 69), 4, .inl f1)), ((g 68), .inl ((a 68), 4, .inl f2)), ((g 67), .inl ((a 67), 240, .inr (.inl (vp_updL (fun _ => 0) (60 + x3).toNatClampNeg 0))))] H := hP
        have hD : va_D A [((g 66), .inr (5, [.ref (g 67), .ref (g 68), .ref (g 69)])), ((g 69), .inl ((a 69), 4, .inl f1)), ((g 68), .inl ((a 68), 4, .inl f2)), ((g 67), .inl ((a 67), 240, .inr (.inl (vp_updL (fun _ => 0) (60 + x3).toNatClampNeg 0))))] := hD
        rw [u_zl] at hP hD
        obtain ⟨y4, ey4⟩ : ∃ y : Int32, y = x3 + 1 := ⟨_, rfl⟩
        refine lv_iinc (v := y4) (lv' := [(4, .int y4), (0, .ref (g 66)), (1, .int 1), (2, .int p0), (3, .int p1)]) hx hb dX5_makeRow_37 hl (k := 0) rfl (by rw [ey4]; rfl) (by decide) rfl (fun ls hl => ?_)
        refine lv_goto (tgt := 17) hx hb dX5_makeRow_40 (by decide) ?_
        exact ih3 (i3 + 1) _ _ _ _ hlt3 (by omega) (by rw [ey4, ex3]; exact nI_1 i3) hP hD hS (lv_sub hl [0, 1, 2, 3, 4] rfl)
  exact loop3 (60 + 1) 0 0 _ _ _ (Nat.zero_le _) (by omega) nI_0.symm hP hD hS hl
set_option maxRecDepth 100000 in
set_option maxHeartbeats 4000000 in
theorem k_X5_isSlot_4 (l : Launch) (dC : Nat → ClassId) (dI : Nat → Nat → Nat) (g : Nat → Nat) (a : Nat → ClassId)   : MI l dC dI yX5_isSlot (Cond.code yX5_isSlot cX5_isSlot 2 (some .boolean)) ({ frames := 0, cells := 0, slots := 0, locals := 0 }) [.ref (g 66), .int 2] [] [((g 66), .inr (5, [.ref (g 67), .ref (g 68), .ref (g 69)]))] (fun r : Int32 => r = 1) (fun f => [((g 66), .inr (5, [.ref (g 67), .ref (g 68), .ref (g 69)]))]) := by
  refine m_of (Qc := fun A => QI dC dI A (fun r : Int32 => r = 1) (fun f => [((g 66), .inr (5, [.ref (g 67), .ref (g 68), .ref (g 69)]))])) (lv := [(0, .ref (g 66)), (1, .int 2)]) (by decide) (Nat.le_of_ble_eq_true rfl) rfl ?_
  intro p e s m below meth c A ls hx hb hr hml hT hown hlocks hname hP hK hD hS hA hl
  have hown : s.vm.findClass RX5 = some m.cls := hown
  refine lv_iload_n hx hb dX5_isSlot_0 rfl (lv_at hl 1 rfl) ?_
  refine lv_if_lt (tgt := 13) hx hb dX5_isSlot_1 (by decide) (fun c1 => ?_) (fun c1 => ?_)
  · exact absurd c1 (by decide)
  · refine lv_iload_n hx hb dX5_isSlot_4 rfl (lv_at hl 1 rfl) ?_
    refine lv_iconst (v := 4) hx hb dX5_isSlot_5 (by decide) ?_
    refine lv_icmp_ge (tgt := 13) hx hb dX5_isSlot_6 (by decide) (fun c2 => ?_) (fun c2 => ?_)
    · exact absurd c2 (by decide)
    · refine lv_iconst (v := 1) hx hb dX5_isSlot_9 (by decide) ?_
      refine lv_goto (tgt := 14) hx hb dX5_isSlot_10 (by decide) ?_
      exact e_z hx hb hr hlocks hP hD hS (fun _ => 0) [0] rfl rfl rfl rfl dX5_isSlot_14
set_option maxRecDepth 100000 in
set_option maxHeartbeats 4000000 in
theorem k_X5_makeRow_3 (l : Launch) (dC : Nat → ClassId) (dI : Nat → Nat → Nat) (g : Nat → Nat) (a : Nat → ClassId) (p0 : Int32) (p1 : Int32)  : MV l dC dI yX5_makeRow (Cond.code yX5_makeRow cX5_makeRow 5 none) ({ frames := 0, cells := 0, slots := 0, locals := 0 }) [.ref (g 66), .int 2, .int p0, .int p1] [((a 69), .int), ((a 68), .int), ((a 67), .long)] [((g 66), .inr (5, [.ref (g 67), .ref (g 68), .ref (g 69)])), ((g 69), .inl ((a 69), 4, .inl (fun _ => 0))), ((g 68), .inl ((a 68), 4, .inl nF)), ((g 67), .inl ((a 67), 240, .inr (.inl (fun _ => 0))))] (fun f => [((g 66), .inr (5, [.ref (g 67), .ref (g 68), .ref (g 69)])), ((g 67), .inl ((a 67), 240, .inr (.inl (fun _ => 0))))]) := by
  refine m_of (Qc := fun A => QV dC dI A (fun f => [((g 66), .inr (5, [.ref (g 67), .ref (g 68), .ref (g 69)])), ((g 67), .inl ((a 67), 240, .inr (.inl (fun _ => 0))))])) (lv := [(0, .ref (g 66)), (1, .int 2), (2, .int p0), (3, .int p1)]) (by decide) (Nat.le_of_ble_eq_true rfl) rfl ?_
  intro p e s m below meth c A ls hx hb hr hml hT hown hlocks hname hP hK hD hS hA hl
  have hown : s.vm.findClass RX5 = some m.cls := hown
  refine lv_aload_n hx hb dX5_makeRow_0 rfl (lv_at hl 0 rfl) ?_
  refine va_get (D := (dC, dI)) (ci := 5) (v := .ref (g 69)) (C := RX5) (T := TX5) (N := 3) hx hb hT inT5 hown hK hP 0 rfl rfl 2 (by decide) (hT _ mw_282) (fun _ h9 => h9) rfl dX5_makeRow_1 ?_
  refine lv_iload_n hx hb dX5_makeRow_4 rfl (lv_at hl 1 rfl) ?_
  refine lv_iload_n hx hb dX5_makeRow_5 rfl (lv_at hl 2 rfl) ?_
  refine va_iast hx hb hK hP hD hS 1 0 rfl rfl (by unfold vp_in; decide) dX5_makeRow_6 (fun H locs hP hD hS => ?_)
  have hP : va_P (dC, dI) vwCl [((g 66), .inr (5, [.ref (g 67), .ref (g 68), .ref (g 69)])), ((g 69), .inl ((a 69), 4, .inl (upd (fun _ => 0) (2 : Int32).toNatClampNeg p0))), ((g 68), .inl ((a 68), 4, .inl nF)), ((g 67), .inl ((a 67), 240, .inr (.inl (fun _ => 0))))] H := hP
  have hD : va_D A [((g 66), .inr (5, [.ref (g 67), .ref (g 68), .ref (g 69)])), ((g 69), .inl ((a 69), 4, .inl (upd (fun _ => 0) (2 : Int32).toNatClampNeg p0))), ((g 68), .inl ((a 68), 4, .inl nF)), ((g 67), .inl ((a 67), 240, .inr (.inl (fun _ => 0))))] := hD
  generalize (upd (fun _ => 0) (2 : Int32).toNatClampNeg p0) = f1 at hP hD
  refine lv_aload_n hx hb dX5_makeRow_7 rfl (lv_at hl 0 rfl) ?_
  refine va_get (D := (dC, dI)) (ci := 5) (v := .ref (g 68)) (C := RX5) (T := TX5) (N := 3) hx hb hT inT5 hown hK hP 0 rfl rfl 1 (by decide) (hT _ mw_266) (fun _ h9 => h9) rfl dX5_makeRow_8 ?_
  refine lv_iload_n hx hb dX5_makeRow_11 rfl (lv_at hl 1 rfl) ?_
  refine lv_iload_n hx hb dX5_makeRow_12 rfl (lv_at hl 3 rfl) ?_
  refine va_iast hx hb hK hP hD hS 2 1 rfl rfl (by unfold vp_in; decide) dX5_makeRow_13 (fun H locs hP hD hS => ?_)
  have hP : va_P (dC, dI) vwCl [((g 66), .inr (5, [.ref (g 67), .ref (g 68), .ref (g 69)])), ((g 69), .inl ((a 69), 4, .inl f1)), ((g 68), .inl ((a 68), 4, .inl (upd nF (2 : Int32).toNatClampNeg p1))), ((g 67), .inl ((a 67), 240, .inr (.inl (fun _ => 0))))] H := hP
  have hD : va_D A [((g 66), .inr (5, [.ref (g 67), .ref (g 68), .ref (g 69)])), ((g 69), .inl ((a 69), 4, .inl f1)), ((g 68), .inl ((a 68), 4, .inl (upd nF (2 : Int32).toNatClampNeg p1))), ((g 67), .inl ((a 67), 240, .inr (.inl (fun _ => 0))))] := hD
  generalize (upd nF (2 : Int32).toNatClampNeg p1) = f2 at hP hD
  refine lv_iconst (v := 0) hx hb dX5_makeRow_14 (by decide) ?_
  refine lv_istore (lv' := [(4, .int 0), (0, .ref (g 66)), (1, .int 2), (2, .int p0), (3, .int p1)]) hx hb dX5_makeRow_15 hl (by decide) rfl (fun ls hl => ?_)
  have loop3 : ∀ (n i3 : Nat) (x3 : Int32) (H : Heap) (locs : List Loc) (ls : Array Slot), i3 ≤ 60 → 60 + 1 ≤ i3 + n → x3 = nI i3 → va_P (dC, dI) vwCl [((g 66), .inr (5, [.ref (g 67), .ref (g 68), .ref (g 69)])), ((g 69), .inl ((a 69), 4, .inl f1)), ((g 68), .inl ((a 68), 4, .inl f2)), ((g 67), .inl ((a 67), 240, .inr (.inl (fun _ => 0))))] H → va_D A [((g 66), .inr (5, [.ref (g 67), .ref (g 68), .ref (g 69)])), ((g 69), .inl ((a 69), 4, .inl f1)), ((g 68), .inl ((a 68), 4, .inl f2)), ((g 67), .inl ((a 67), 240, .inr (.inl (fun _ => 0))))] → va_S A s.heap H locs → lv_has ls 5 [(4, .int x3), (0, .ref (g 66)), (1, .int 2), (2, .int p0), (3, .int p1)] → W p l e ({ frames := 0, cells := 0, slots := 0, locals := 0 }) s m ([.ref (g 66), .int 2, .int p0, .int p1] : List Value).toArray below meth c H locs 0 0 (MQ below (QV dC dI A (fun f => [((g 66), .inr (5, [.ref (g 67), .ref (g 68), .ref (g 69)])), ((g 67), .inl ((a 67), 240, .inr (.inl (fun _ => 0))))])) ([.ref (g 66), .int 2, .int p0, .int p1] : List Value).toArray s 0 0 A) (F0 m 17 ls []) := by
    intro n
    induction n with
    | zero => exact fun i x H locs ls h1 h2 => absurd h2 (by omega)
    | succ n ih3 =>
      intro i3 x3 H locs ls hi hin ex3 hP hD hS hl
      refine lv_iload hx hb dX5_makeRow_17 (lv_at hl 0 rfl) ?_
      refine lv_bipush (v := 60) hx hb dX5_makeRow_19 (by decide) ?_
      refine lv_icmp_ge (tgt := 43) hx hb dX5_makeRow_21 (by decide) (fun cc_ => ?_) (fun cc_ => ?_)
      · exact e_v hx hb hr hlocks hP hD hS (fun _ => 0) [0, 3] rfl rfl dX5_makeRow_43
      · have hlt3 : i3 < 60 := by
          rcases Nat.lt_or_ge i3 60 with q | q
          · exact q
          · exact absurd (by rw [ex3]; exact nI_le q (by omega)) cc_
        refine lv_aload_n hx hb dX5_makeRow_24 rfl (lv_at hl 1 rfl) ?_
        refine va_get (D := (dC, dI)) (ci := 5) (v := .ref (g 67)) (C := RX5) (T := TX5) (N := 3) hx hb hT inT5 hown hK hP 0 rfl rfl 0 (by decide) (hT _ mw_283) (fun _ h9 => h9) rfl dX5_makeRow_25 ?_
        refine lv_iload_n hx hb dX5_makeRow_28 rfl (lv_at hl 2 rfl) ?_
        refine lv_bipush (v := 60) hx hb dX5_makeRow_29 (by decide) ?_
        refine lv_imul hx hb dX5_makeRow_31 ?_
        refine t_i 120 (by decide) ?_
        refine lv_iload hx hb dX5_makeRow_32 (lv_at hl 0 rfl) ?_
        refine lv_iadd hx hb dX5_makeRow_34 ?_
        refine lv_lconst (v := 0) hx hb dX5_makeRow_35 (by decide) ?_
        refine va_last hx hb hK hP hD hS 3 2 rfl rfl (by rw [ex3, show (120 : Int32) = nI 120 from rfl, nI_add]; exact vp_in_nI (by omega) (by decide)) dX5_makeRow_36 (fun H locs hP hD hS => ?_)
        have hP : va_P (dC, dI) vwCl [((g 66), .inr (5, [.ref (g 67), .ref (g 68), .ref (g 69)])), ((g 69), .inl ((a 69), 4, .inl f1)), ((g 68), .inl ((a 68), 4, .inl f2)), ((g 67), .inl ((a 67), 240, .inr (.inl (vp_updL (fun _ => 0) (120 + x3).toNatClampNeg 0))))] H := hP
        have hD : va_D A [((g 66), .inr (5, [.ref (g 67), .ref (g 68), .ref (g 69)])), ((g 69), .inl ((a 69), 4, .inl f1)), ((g 68), .inl ((a 68), 4, .inl f2)), ((g 67), .inl ((a 67), 240, .inr (.inl (vp_updL (fun _ => 0) (120 + x3).toNatClampNeg 0))))] := hD
        rw [u_zl] at hP hD
        obtain ⟨y4, ey4⟩ : ∃ y : Int32, y = x3 + 1 := ⟨_, rfl⟩
        refine lv_iinc (v := y4) (lv' := [(4, .int y4), (0, .ref (g 66)), (1, .int 2), (2, .int p0), (3, .int p1)]) hx hb dX5_makeRow_37 hl (k := 0) rfl (by rw [ey4]; rfl) (by decide) rfl (fun ls hl => ?_)
        refine lv_goto (tgt := 17) hx hb dX5_makeRow_40 (by decide) ?_
        exact ih3 (i3 + 1) _ _ _ _ hlt3 (by omega) (by rw [ey4, ex3]; exact nI_1 i3) hP hD hS (lv_sub hl [0, 1, 2, 3, 4] rfl)
  exact loop3 (60 + 1) 0 0 _ _ _ (Nat.zero_le _) (by omega) nI_0.symm hP hD hS hl
set_option maxRecDepth 100000 in
set_option maxHeartbeats 4000000 in
theorem k_X5_isSlot_5 (l : Launch) (dC : Nat → ClassId) (dI : Nat → Nat → Nat) (g : Nat → Nat) (a : Nat → ClassId)   : MI l dC dI yX5_isSlot (Cond.code yX5_isSlot cX5_isSlot 2 (some .boolean)) ({ frames := 0, cells := 0, slots := 0, locals := 0 }) [.ref (g 66), .int 3] [] [((g 66), .inr (5, [.ref (g 67), .ref (g 68), .ref (g 69)]))] (fun r : Int32 => r = 1) (fun f => [((g 66), .inr (5, [.ref (g 67), .ref (g 68), .ref (g 69)]))]) := by
  refine m_of (Qc := fun A => QI dC dI A (fun r : Int32 => r = 1) (fun f => [((g 66), .inr (5, [.ref (g 67), .ref (g 68), .ref (g 69)]))])) (lv := [(0, .ref (g 66)), (1, .int 3)]) (by decide) (Nat.le_of_ble_eq_true rfl) rfl ?_
  intro p e s m below meth c A ls hx hb hr hml hT hown hlocks hname hP hK hD hS hA hl
  have hown : s.vm.findClass RX5 = some m.cls := hown
  refine lv_iload_n hx hb dX5_isSlot_0 rfl (lv_at hl 1 rfl) ?_
  refine lv_if_lt (tgt := 13) hx hb dX5_isSlot_1 (by decide) (fun c1 => ?_) (fun c1 => ?_)
  · exact absurd c1 (by decide)
  · refine lv_iload_n hx hb dX5_isSlot_4 rfl (lv_at hl 1 rfl) ?_
    refine lv_iconst (v := 4) hx hb dX5_isSlot_5 (by decide) ?_
    refine lv_icmp_ge (tgt := 13) hx hb dX5_isSlot_6 (by decide) (fun c2 => ?_) (fun c2 => ?_)
    · exact absurd c2 (by decide)
    · refine lv_iconst (v := 1) hx hb dX5_isSlot_9 (by decide) ?_
      refine lv_goto (tgt := 14) hx hb dX5_isSlot_10 (by decide) ?_
      exact e_z hx hb hr hlocks hP hD hS (fun _ => 0) [0] rfl rfl rfl rfl dX5_isSlot_14
set_option maxRecDepth 100000 in
set_option maxHeartbeats 4000000 in
theorem k_X5_makeRow_4 (l : Launch) (dC : Nat → ClassId) (dI : Nat → Nat → Nat) (g : Nat → Nat) (a : Nat → ClassId) (p0 : Int32) (p1 : Int32)  : MV l dC dI yX5_makeRow (Cond.code yX5_makeRow cX5_makeRow 5 none) ({ frames := 0, cells := 0, slots := 0, locals := 0 }) [.ref (g 66), .int 3, .int p0, .int p1] [((a 69), .int), ((a 68), .int), ((a 67), .long)] [((g 66), .inr (5, [.ref (g 67), .ref (g 68), .ref (g 69)])), ((g 69), .inl ((a 69), 4, .inl (fun _ => 0))), ((g 68), .inl ((a 68), 4, .inl nF)), ((g 67), .inl ((a 67), 240, .inr (.inl (fun _ => 0))))] (fun f => [((g 66), .inr (5, [.ref (g 67), .ref (g 68), .ref (g 69)])), ((g 67), .inl ((a 67), 240, .inr (.inl (fun _ => 0))))]) := by
  refine m_of (Qc := fun A => QV dC dI A (fun f => [((g 66), .inr (5, [.ref (g 67), .ref (g 68), .ref (g 69)])), ((g 67), .inl ((a 67), 240, .inr (.inl (fun _ => 0))))])) (lv := [(0, .ref (g 66)), (1, .int 3), (2, .int p0), (3, .int p1)]) (by decide) (Nat.le_of_ble_eq_true rfl) rfl ?_
  intro p e s m below meth c A ls hx hb hr hml hT hown hlocks hname hP hK hD hS hA hl
  have hown : s.vm.findClass RX5 = some m.cls := hown
  refine lv_aload_n hx hb dX5_makeRow_0 rfl (lv_at hl 0 rfl) ?_
  refine va_get (D := (dC, dI)) (ci := 5) (v := .ref (g 69)) (C := RX5) (T := TX5) (N := 3) hx hb hT inT5 hown hK hP 0 rfl rfl 2 (by decide) (hT _ mw_282) (fun _ h9 => h9) rfl dX5_makeRow_1 ?_
  refine lv_iload_n hx hb dX5_makeRow_4 rfl (lv_at hl 1 rfl) ?_
  refine lv_iload_n hx hb dX5_makeRow_5 rfl (lv_at hl 2 rfl) ?_
  refine va_iast hx hb hK hP hD hS 1 0 rfl rfl (by unfold vp_in; decide) dX5_makeRow_6 (fun H locs hP hD hS => ?_)
  have hP : va_P (dC, dI) vwCl [((g 66), .inr (5, [.ref (g 67), .ref (g 68), .ref (g 69)])), ((g 69), .inl ((a 69), 4, .inl (upd (fun _ => 0) (3 : Int32).toNatClampNeg p0))), ((g 68), .inl ((a 68), 4, .inl nF)), ((g 67), .inl ((a 67), 240, .inr (.inl (fun _ => 0))))] H := hP
  have hD : va_D A [((g 66), .inr (5, [.ref (g 67), .ref (g 68), .ref (g 69)])), ((g 69), .inl ((a 69), 4, .inl (upd (fun _ => 0) (3 : Int32).toNatClampNeg p0))), ((g 68), .inl ((a 68), 4, .inl nF)), ((g 67), .inl ((a 67), 240, .inr (.inl (fun _ => 0))))] := hD
  generalize (upd (fun _ => 0) (3 : Int32).toNatClampNeg p0) = f1 at hP hD
  refine lv_aload_n hx hb dX5_makeRow_7 rfl (lv_at hl 0 rfl) ?_
  refine va_get (D := (dC, dI)) (ci := 5) (v := .ref (g 68)) (C := RX5) (T := TX5) (N := 3) hx hb hT inT5 hown hK hP 0 rfl rfl 1 (by decide) (hT _ mw_266) (fun _ h9 => h9) rfl dX5_makeRow_8 ?_
  refine lv_iload_n hx hb dX5_makeRow_11 rfl (lv_at hl 1 rfl) ?_
  refine lv_iload_n hx hb dX5_makeRow_12 rfl (lv_at hl 3 rfl) ?_
  refine va_iast hx hb hK hP hD hS 2 1 rfl rfl (by unfold vp_in; decide) dX5_makeRow_13 (fun H locs hP hD hS => ?_)
  have hP : va_P (dC, dI) vwCl [((g 66), .inr (5, [.ref (g 67), .ref (g 68), .ref (g 69)])), ((g 69), .inl ((a 69), 4, .inl f1)), ((g 68), .inl ((a 68), 4, .inl (upd nF (3 : Int32).toNatClampNeg p1))), ((g 67), .inl ((a 67), 240, .inr (.inl (fun _ => 0))))] H := hP
  have hD : va_D A [((g 66), .inr (5, [.ref (g 67), .ref (g 68), .ref (g 69)])), ((g 69), .inl ((a 69), 4, .inl f1)), ((g 68), .inl ((a 68), 4, .inl (upd nF (3 : Int32).toNatClampNeg p1))), ((g 67), .inl ((a 67), 240, .inr (.inl (fun _ => 0))))] := hD
  generalize (upd nF (3 : Int32).toNatClampNeg p1) = f2 at hP hD
  refine lv_iconst (v := 0) hx hb dX5_makeRow_14 (by decide) ?_
  refine lv_istore (lv' := [(4, .int 0), (0, .ref (g 66)), (1, .int 3), (2, .int p0), (3, .int p1)]) hx hb dX5_makeRow_15 hl (by decide) rfl (fun ls hl => ?_)
  have loop3 : ∀ (n i3 : Nat) (x3 : Int32) (H : Heap) (locs : List Loc) (ls : Array Slot), i3 ≤ 60 → 60 + 1 ≤ i3 + n → x3 = nI i3 → va_P (dC, dI) vwCl [((g 66), .inr (5, [.ref (g 67), .ref (g 68), .ref (g 69)])), ((g 69), .inl ((a 69), 4, .inl f1)), ((g 68), .inl ((a 68), 4, .inl f2)), ((g 67), .inl ((a 67), 240, .inr (.inl (fun _ => 0))))] H → va_D A [((g 66), .inr (5, [.ref (g 67), .ref (g 68), .ref (g 69)])), ((g 69), .inl ((a 69), 4, .inl f1)), ((g 68), .inl ((a 68), 4, .inl f2)), ((g 67), .inl ((a 67), 240, .inr (.inl (fun _ => 0))))] → va_S A s.heap H locs → lv_has ls 5 [(4, .int x3), (0, .ref (g 66)), (1, .int 3), (2, .int p0), (3, .int p1)] → W p l e ({ frames := 0, cells := 0, slots := 0, locals := 0 }) s m ([.ref (g 66), .int 3, .int p0, .int p1] : List Value).toArray below meth c H locs 0 0 (MQ below (QV dC dI A (fun f => [((g 66), .inr (5, [.ref (g 67), .ref (g 68), .ref (g 69)])), ((g 67), .inl ((a 67), 240, .inr (.inl (fun _ => 0))))])) ([.ref (g 66), .int 3, .int p0, .int p1] : List Value).toArray s 0 0 A) (F0 m 17 ls []) := by
    intro n
    induction n with
    | zero => exact fun i x H locs ls h1 h2 => absurd h2 (by omega)
    | succ n ih3 =>
      intro i3 x3 H locs ls hi hin ex3 hP hD hS hl
      refine lv_iload hx hb dX5_makeRow_17 (lv_at hl 0 rfl) ?_
      refine lv_bipush (v := 60) hx hb dX5_makeRow_19 (by decide) ?_
      refine lv_icmp_ge (tgt := 43) hx hb dX5_makeRow_21 (by decide) (fun cc_ => ?_) (fun cc_ => ?_)
      · exact e_v hx hb hr hlocks hP hD hS (fun _ => 0) [0, 3] rfl rfl dX5_makeRow_43
      · have hlt3 : i3 < 60 := by
          rcases Nat.lt_or_ge i3 60 with q | q
          · exact q
          · exact absurd (by rw [ex3]; exact nI_le q (by omega)) cc_
        refine lv_aload_n hx hb dX5_makeRow_24 rfl (lv_at hl 1 rfl) ?_
        refine va_get (D := (dC, dI)) (ci := 5) (v := .ref (g 67)) (C := RX5) (T := TX5) (N := 3) hx hb hT inT5 hown hK hP 0 rfl rfl 0 (by decide) (hT _ mw_283) (fun _ h9 => h9) rfl dX5_makeRow_25 ?_
        refine lv_iload_n hx hb dX5_makeRow_28 rfl (lv_at hl 2 rfl) ?_
        refine lv_bipush (v := 60) hx hb dX5_makeRow_29 (by decide) ?_
        refine lv_imul hx hb dX5_makeRow_31 ?_
        refine t_i 180 (by decide) ?_
        refine lv_iload hx hb dX5_makeRow_32 (lv_at hl 0 rfl) ?_
        refine lv_iadd hx hb dX5_makeRow_34 ?_
        refine lv_lconst (v := 0) hx hb dX5_makeRow_35 (by decide) ?_
        refine va_last hx hb hK hP hD hS 3 2 rfl rfl (by rw [ex3, show (180 : Int32) = nI 180 from rfl, nI_add]; exact vp_in_nI (by omega) (by decide)) dX5_makeRow_36 (fun H locs hP hD hS => ?_)
        have hP : va_P (dC, dI) vwCl [((g 66), .inr (5, [.ref (g 67), .ref (g 68), .ref (g 69)])), ((g 69), .inl ((a 69), 4, .inl f1)), ((g 68), .inl ((a 68), 4, .inl f2)), ((g 67), .inl ((a 67), 240, .inr (.inl (vp_updL (fun _ => 0) (180 + x3).toNatClampNeg 0))))] H := hP
        have hD : va_D A [((g 66), .inr (5, [.ref (g 67), .ref (g 68), .ref (g 69)])), ((g 69), .inl ((a 69), 4, .inl f1)), ((g 68), .inl ((a 68), 4, .inl f2)), ((g 67), .inl ((a 67), 240, .inr (.inl (vp_updL (fun _ => 0) (180 + x3).toNatClampNeg 0))))] := hD
        rw [u_zl] at hP hD
        obtain ⟨y4, ey4⟩ : ∃ y : Int32, y = x3 + 1 := ⟨_, rfl⟩
        refine lv_iinc (v := y4) (lv' := [(4, .int y4), (0, .ref (g 66)), (1, .int 3), (2, .int p0), (3, .int p1)]) hx hb dX5_makeRow_37 hl (k := 0) rfl (by rw [ey4]; rfl) (by decide) rfl (fun ls hl => ?_)
        refine lv_goto (tgt := 17) hx hb dX5_makeRow_40 (by decide) ?_
        exact ih3 (i3 + 1) _ _ _ _ hlt3 (by omega) (by rw [ey4, ex3]; exact nI_1 i3) hP hD hS (lv_sub hl [0, 1, 2, 3, 4] rfl)
  exact loop3 (60 + 1) 0 0 _ _ _ (Nat.zero_le _) (by omega) nI_0.symm hP hD hS hl
set_option maxRecDepth 100000 in
set_option maxHeartbeats 4000000 in
theorem k_X8_row (l : Launch) (dC : Nat → ClassId) (dI : Nat → Nat → Nat) (g : Nat → Nat) (a : Nat → ClassId) (p0 : Int32) (p1 : Int32) (p2 : Int32)  : MI l dC dI yX8_row (Cond.code yX8_row cX8_row 4 (some .int)) ({ frames := 1, cells := 0, slots := 0, locals := 24 }) [.ref (g 0), .int p0, .int p1, .int p2] [((a 69), .int), ((a 68), .int), ((a 67), .long)] [((g 0), .inr (8, [.ref (g 1), .ref (g 2), .ref (g 4), .ref (g 16), .ref (g 64), .ref (g 65), .ref (g 66), .ref (g 70), .ref (g 75), .ref (g 87), .ref (g 94), .int 0, .int 0, .int 0])), ((g 66), .inr (5, [.ref (g 67), .ref (g 68), .ref (g 69)])), ((g 69), .inl ((a 69), 4, .inl (fun _ => 0))), ((g 68), .inl ((a 68), 4, .inl nF)), ((g 67), .inl ((a 67), 240, .inr (.inl (fun _ => 0))))] (fun r : Int32 => r = s_row p0.toInt p1.toInt p2.toInt) (fun f => []) := by
  rcases sp3 p0 with rfl | rfl | rfl | rfl | csp | csp
  · refine m_of (Qc := fun A => QI dC dI A (fun r : Int32 => r = s_row (0 : Int32).toInt p1.toInt p2.toInt) (fun f => [])) (lv := [(0, .ref (g 0)), (1, .int 0), (2, .int p1), (3, .int p2)]) (by decide) (Nat.le_of_ble_eq_true rfl) rfl ?_
    intro p e s m below meth c A ls hx hb hr hml hT hown hlocks hname hP hK hD hS hA hl
    have hown : s.vm.findClass RX8 = some m.cls := hown
    have hz0 : (0 : Int32).toInt = 0 := by decide
    refine lv_aload_n hx hb dX8_row_0 rfl (lv_at hl 0 rfl) ?_
    refine va_get (D := (dC, dI)) (ci := 8) (v := .ref (g 66)) (C := RX8) (T := TX8) (N := 14) hx hb hT inT8 hown hK hP 0 rfl rfl 6 (by decide) (hT _ mw_222) (fun _ h9 => h9) rfl dX8_row_1 ?_
    refine lv_iload_n hx hb dX8_row_4 rfl (lv_at hl 1 rfl) ?_
    refine c_Vi (C := RX5) (As := [.int 0]) (rest := []) (wr := [((g 0), .inr (8, [.ref (g 1), .ref (g 2), .ref (g 4), .ref (g 16), .ref (g 64), .ref (g 65), .ref (g 66), .ref (g 70), .ref (g 75), .ref (g 87), .ref (g 94), .int 0, .int 0, .int 0])), ((g 69), .inl ((a 69), 4, .inl (fun _ => 0))), ((g 68), .inl ((a 68), 4, .inl nF)), ((g 67), .inl ((a 67), 240, .inr (.inl (fun _ => 0))))]) (n := 1) ⟨hx, hb, hml, hown, hT⟩ (k_X5_isSlot_2 l dC dI g a ) hK hP hD hS hA [] rfl [1] [0, 2, 3, 4] rfl rfl rfl rfl (by decide) rfl rfl mw_223 mw_224 mw_225 mw_226 mw_227 (by decide +kernel) ⟨Nat.le_of_ble_eq_true rfl, Nat.le_of_ble_eq_true rfl⟩ ⟨rfl, rfl⟩ rfl hl.1 (Nat.le_of_ble_eq_true rfl) rfl dX8_row_5 ⟨Nat.zero_le _, Nat.zero_le _⟩ (fun r f1 H locs er hP hD hS => ?_)
    have hP : va_P (dC, dI) vwCl [((g 0), .inr (8, [.ref (g 1), .ref (g 2), .ref (g 4), .ref (g 16), .ref (g 64), .ref (g 65), .ref (g 66), .ref (g 70), .ref (g 75), .ref (g 87), .ref (g 94), .int 0, .int 0, .int 0])), ((g 69), .inl ((a 69), 4, .inl (fun _ => 0))), ((g 68), .inl ((a 68), 4, .inl nF)), ((g 67), .inl ((a 67), 240, .inr (.inl (fun _ => 0)))), ((g 66), .inr (5, [.ref (g 67), .ref (g 68), .ref (g 69)]))] H := hP
    have hD : va_D A [((g 0), .inr (8, [.ref (g 1), .ref (g 2), .ref (g 4), .ref (g 16), .ref (g 64), .ref (g 65), .ref (g 66), .ref (g 70), .ref (g 75), .ref (g 87), .ref (g 94), .int 0, .int 0, .int 0])), ((g 69), .inl ((a 69), 4, .inl (fun _ => 0))), ((g 68), .inl ((a 68), 4, .inl nF)), ((g 67), .inl ((a 67), 240, .inr (.inl (fun _ => 0)))), ((g 66), .inr (5, [.ref (g 67), .ref (g 68), .ref (g 69)]))] := hD
    have er : r = 1 := er
    subst er
    refine lv_if_eq (tgt := 26) hx hb dX8_row_8 (by decide) (fun c2 => ?_) (fun c2 => ?_)
    · exact absurd c2 (by decide)
    · refine lv_iload_n hx hb dX8_row_11 rfl (lv_at hl 2 rfl) ?_
      refine lv_if_lt (tgt := 26) hx hb dX8_row_12 (by decide) (fun c3 => ?_) (fun c3 => ?_)
      · have c3 := i_lt p1.toInt 0 rfl (by decide) c3
        refine lv_bipush (v := (-2)) hx hb dX8_row_26 (by decide) ?_
        exact e_i hx hb hr hlocks hP hD hS (fun _ => 0) [] rfl rfl (by unfold s_row; (repeat' split) <;> first | rfl | omega) dX8_row_28
      · have c3 := i_nlt p1.toInt 0 rfl (by decide) c3
        refine lv_iload_n hx hb dX8_row_15 rfl (lv_at hl 2 rfl) ?_
        refine lv_iconst (v := 3) hx hb dX8_row_16 (by decide) ?_
        refine lv_icmp_gt (tgt := 26) hx hb dX8_row_17 (by decide) (fun c4 => ?_) (fun c4 => ?_)
        · have c4 := i_lt 3 p1.toInt (by decide) rfl c4
          refine lv_bipush (v := (-2)) hx hb dX8_row_26 (by decide) ?_
          exact e_i hx hb hr hlocks hP hD hS (fun _ => 0) [] rfl rfl (by unfold s_row; (repeat' split) <;> first | rfl | omega) dX8_row_28
        · have c4 := i_nlt 3 p1.toInt (by decide) rfl c4
          refine lv_iload_n hx hb dX8_row_20 rfl (lv_at hl 3 rfl) ?_
          refine lv_bipush (v := 60) hx hb dX8_row_21 (by decide) ?_
          refine lv_icmp_le (tgt := 29) hx hb dX8_row_23 (by decide) (fun c5 => ?_) (fun c5 => ?_)
          · have c5 := i_le p2.toInt 60 rfl (by decide) c5
            refine lv_iload_n hx hb dX8_row_29 rfl (lv_at hl 3 rfl) ?_
            refine lv_if_ge (tgt := 36) hx hb dX8_row_30 (by decide) (fun c6 => ?_) (fun c6 => ?_)
            · have c6 := i_le 0 p2.toInt (by decide) rfl c6
              refine lv_aload_n hx hb dX8_row_36 rfl (lv_at hl 0 rfl) ?_
              refine va_get (D := (dC, dI)) (ci := 8) (v := .ref (g 66)) (C := RX8) (T := TX8) (N := 14) hx hb hT inT8 hown hK hP 0 rfl rfl 6 (by decide) (hT _ mw_222) (fun _ h9 => h9) rfl dX8_row_37 ?_
              refine lv_iload_n hx hb dX8_row_40 rfl (lv_at hl 1 rfl) ?_
              refine lv_iload_n hx hb dX8_row_41 rfl (lv_at hl 2 rfl) ?_
              refine lv_iload_n hx hb dX8_row_42 rfl (lv_at hl 3 rfl) ?_
              refine c_Vv (C := RX5) (As := [.int 0, .int p1, .int p2]) (rest := []) (wr := [((g 0), .inr (8, [.ref (g 1), .ref (g 2), .ref (g 4), .ref (g 16), .ref (g 64), .ref (g 65), .ref (g 66), .ref (g 70), .ref (g 75), .ref (g 87), .ref (g 94), .int 0, .int 0, .int 0]))]) (n := 3) ⟨hx, hb, hml, hown, hT⟩ (k_X5_makeRow l dC dI g a p1 p2) hK hP hD hS hA [0, 1, 2] rfl [4, 1, 2, 3] [0] rfl rfl rfl rfl (by decide) rfl rfl mw_284 mw_285 mw_286 mw_226 mw_287 (by decide +kernel) ⟨Nat.le_of_ble_eq_true rfl, Nat.le_of_ble_eq_true rfl⟩ ⟨rfl, rfl⟩ rfl hl.1 (Nat.le_of_ble_eq_true rfl) rfl dX8_row_43 ⟨Nat.zero_le _, Nat.zero_le _⟩ (fun f7 H locs hP hD hS => ?_)
              have hP : va_P (dC, dI) vwCl [((g 0), .inr (8, [.ref (g 1), .ref (g 2), .ref (g 4), .ref (g 16), .ref (g 64), .ref (g 65), .ref (g 66), .ref (g 70), .ref (g 75), .ref (g 87), .ref (g 94), .int 0, .int 0, .int 0])), ((g 66), .inr (5, [.ref (g 67), .ref (g 68), .ref (g 69)])), ((g 67), .inl ((a 67), 240, .inr (.inl (fun _ => 0))))] H := hP
              have hD : va_D A [((g 0), .inr (8, [.ref (g 1), .ref (g 2), .ref (g 4), .ref (g 16), .ref (g 64), .ref (g 65), .ref (g 66), .ref (g 70), .ref (g 75), .ref (g 87), .ref (g 94), .int 0, .int 0, .int 0])), ((g 66), .inr (5, [.ref (g 67), .ref (g 68), .ref (g 69)])), ((g 67), .inl ((a 67), 240, .inr (.inl (fun _ => 0))))] := hD
              refine lv_iconst (v := 0) hx hb dX8_row_46 (by decide) ?_
              exact e_i hx hb hr hlocks hP hD hS (fun _ => 0) [] rfl rfl (by unfold s_row; (repeat' split) <;> first | rfl | omega) dX8_row_47
            · have c6 := i_nle 0 p2.toInt (by decide) rfl c6
              refine lv_bipush (v := (-3)) hx hb dX8_row_33 (by decide) ?_
              exact e_i hx hb hr hlocks hP hD hS (fun _ => 0) [] rfl rfl (by unfold s_row; (repeat' split) <;> first | rfl | omega) dX8_row_35
          · have c5 := i_nle p2.toInt 60 rfl (by decide) c5
            refine lv_bipush (v := (-2)) hx hb dX8_row_26 (by decide) ?_
            exact e_i hx hb hr hlocks hP hD hS (fun _ => 0) [] rfl rfl (by unfold s_row; (repeat' split) <;> first | rfl | omega) dX8_row_28
  · refine m_of (Qc := fun A => QI dC dI A (fun r : Int32 => r = s_row (1 : Int32).toInt p1.toInt p2.toInt) (fun f => [])) (lv := [(0, .ref (g 0)), (1, .int 1), (2, .int p1), (3, .int p2)]) (by decide) (Nat.le_of_ble_eq_true rfl) rfl ?_
    intro p e s m below meth c A ls hx hb hr hml hT hown hlocks hname hP hK hD hS hA hl
    have hown : s.vm.findClass RX8 = some m.cls := hown
    have hz0 : (1 : Int32).toInt = 1 := by decide
    refine lv_aload_n hx hb dX8_row_0 rfl (lv_at hl 0 rfl) ?_
    refine va_get (D := (dC, dI)) (ci := 8) (v := .ref (g 66)) (C := RX8) (T := TX8) (N := 14) hx hb hT inT8 hown hK hP 0 rfl rfl 6 (by decide) (hT _ mw_222) (fun _ h9 => h9) rfl dX8_row_1 ?_
    refine lv_iload_n hx hb dX8_row_4 rfl (lv_at hl 1 rfl) ?_
    refine c_Vi (C := RX5) (As := [.int 1]) (rest := []) (wr := [((g 0), .inr (8, [.ref (g 1), .ref (g 2), .ref (g 4), .ref (g 16), .ref (g 64), .ref (g 65), .ref (g 66), .ref (g 70), .ref (g 75), .ref (g 87), .ref (g 94), .int 0, .int 0, .int 0])), ((g 69), .inl ((a 69), 4, .inl (fun _ => 0))), ((g 68), .inl ((a 68), 4, .inl nF)), ((g 67), .inl ((a 67), 240, .inr (.inl (fun _ => 0))))]) (n := 1) ⟨hx, hb, hml, hown, hT⟩ (k_X5_isSlot_3 l dC dI g a ) hK hP hD hS hA [] rfl [1] [0, 2, 3, 4] rfl rfl rfl rfl (by decide) rfl rfl mw_223 mw_224 mw_225 mw_226 mw_227 (by decide +kernel) ⟨Nat.le_of_ble_eq_true rfl, Nat.le_of_ble_eq_true rfl⟩ ⟨rfl, rfl⟩ rfl hl.1 (Nat.le_of_ble_eq_true rfl) rfl dX8_row_5 ⟨Nat.zero_le _, Nat.zero_le _⟩ (fun r f1 H locs er hP hD hS => ?_)
    have hP : va_P (dC, dI) vwCl [((g 0), .inr (8, [.ref (g 1), .ref (g 2), .ref (g 4), .ref (g 16), .ref (g 64), .ref (g 65), .ref (g 66), .ref (g 70), .ref (g 75), .ref (g 87), .ref (g 94), .int 0, .int 0, .int 0])), ((g 69), .inl ((a 69), 4, .inl (fun _ => 0))), ((g 68), .inl ((a 68), 4, .inl nF)), ((g 67), .inl ((a 67), 240, .inr (.inl (fun _ => 0)))), ((g 66), .inr (5, [.ref (g 67), .ref (g 68), .ref (g 69)]))] H := hP
    have hD : va_D A [((g 0), .inr (8, [.ref (g 1), .ref (g 2), .ref (g 4), .ref (g 16), .ref (g 64), .ref (g 65), .ref (g 66), .ref (g 70), .ref (g 75), .ref (g 87), .ref (g 94), .int 0, .int 0, .int 0])), ((g 69), .inl ((a 69), 4, .inl (fun _ => 0))), ((g 68), .inl ((a 68), 4, .inl nF)), ((g 67), .inl ((a 67), 240, .inr (.inl (fun _ => 0)))), ((g 66), .inr (5, [.ref (g 67), .ref (g 68), .ref (g 69)]))] := hD
    have er : r = 1 := er
    subst er
    refine lv_if_eq (tgt := 26) hx hb dX8_row_8 (by decide) (fun c2 => ?_) (fun c2 => ?_)
    · exact absurd c2 (by decide)
    · refine lv_iload_n hx hb dX8_row_11 rfl (lv_at hl 2 rfl) ?_
      refine lv_if_lt (tgt := 26) hx hb dX8_row_12 (by decide) (fun c3 => ?_) (fun c3 => ?_)
      · have c3 := i_lt p1.toInt 0 rfl (by decide) c3
        refine lv_bipush (v := (-2)) hx hb dX8_row_26 (by decide) ?_
        exact e_i hx hb hr hlocks hP hD hS (fun _ => 0) [] rfl rfl (by unfold s_row; (repeat' split) <;> first | rfl | omega) dX8_row_28
      · have c3 := i_nlt p1.toInt 0 rfl (by decide) c3
        refine lv_iload_n hx hb dX8_row_15 rfl (lv_at hl 2 rfl) ?_
        refine lv_iconst (v := 3) hx hb dX8_row_16 (by decide) ?_
        refine lv_icmp_gt (tgt := 26) hx hb dX8_row_17 (by decide) (fun c4 => ?_) (fun c4 => ?_)
        · have c4 := i_lt 3 p1.toInt (by decide) rfl c4
          refine lv_bipush (v := (-2)) hx hb dX8_row_26 (by decide) ?_
          exact e_i hx hb hr hlocks hP hD hS (fun _ => 0) [] rfl rfl (by unfold s_row; (repeat' split) <;> first | rfl | omega) dX8_row_28
        · have c4 := i_nlt 3 p1.toInt (by decide) rfl c4
          refine lv_iload_n hx hb dX8_row_20 rfl (lv_at hl 3 rfl) ?_
          refine lv_bipush (v := 60) hx hb dX8_row_21 (by decide) ?_
          refine lv_icmp_le (tgt := 29) hx hb dX8_row_23 (by decide) (fun c5 => ?_) (fun c5 => ?_)
          · have c5 := i_le p2.toInt 60 rfl (by decide) c5
            refine lv_iload_n hx hb dX8_row_29 rfl (lv_at hl 3 rfl) ?_
            refine lv_if_ge (tgt := 36) hx hb dX8_row_30 (by decide) (fun c6 => ?_) (fun c6 => ?_)
            · have c6 := i_le 0 p2.toInt (by decide) rfl c6
              refine lv_aload_n hx hb dX8_row_36 rfl (lv_at hl 0 rfl) ?_
              refine va_get (D := (dC, dI)) (ci := 8) (v := .ref (g 66)) (C := RX8) (T := TX8) (N := 14) hx hb hT inT8 hown hK hP 0 rfl rfl 6 (by decide) (hT _ mw_222) (fun _ h9 => h9) rfl dX8_row_37 ?_
              refine lv_iload_n hx hb dX8_row_40 rfl (lv_at hl 1 rfl) ?_
              refine lv_iload_n hx hb dX8_row_41 rfl (lv_at hl 2 rfl) ?_
              refine lv_iload_n hx hb dX8_row_42 rfl (lv_at hl 3 rfl) ?_
              refine c_Vv (C := RX5) (As := [.int 1, .int p1, .int p2]) (rest := []) (wr := [((g 0), .inr (8, [.ref (g 1), .ref (g 2), .ref (g 4), .ref (g 16), .ref (g 64), .ref (g 65), .ref (g 66), .ref (g 70), .ref (g 75), .ref (g 87), .ref (g 94), .int 0, .int 0, .int 0]))]) (n := 3) ⟨hx, hb, hml, hown, hT⟩ (k_X5_makeRow_2 l dC dI g a p1 p2) hK hP hD hS hA [0, 1, 2] rfl [4, 1, 2, 3] [0] rfl rfl rfl rfl (by decide) rfl rfl mw_284 mw_285 mw_286 mw_226 mw_287 (by decide +kernel) ⟨Nat.le_of_ble_eq_true rfl, Nat.le_of_ble_eq_true rfl⟩ ⟨rfl, rfl⟩ rfl hl.1 (Nat.le_of_ble_eq_true rfl) rfl dX8_row_43 ⟨Nat.zero_le _, Nat.zero_le _⟩ (fun f7 H locs hP hD hS => ?_)
              have hP : va_P (dC, dI) vwCl [((g 0), .inr (8, [.ref (g 1), .ref (g 2), .ref (g 4), .ref (g 16), .ref (g 64), .ref (g 65), .ref (g 66), .ref (g 70), .ref (g 75), .ref (g 87), .ref (g 94), .int 0, .int 0, .int 0])), ((g 66), .inr (5, [.ref (g 67), .ref (g 68), .ref (g 69)])), ((g 67), .inl ((a 67), 240, .inr (.inl (fun _ => 0))))] H := hP
              have hD : va_D A [((g 0), .inr (8, [.ref (g 1), .ref (g 2), .ref (g 4), .ref (g 16), .ref (g 64), .ref (g 65), .ref (g 66), .ref (g 70), .ref (g 75), .ref (g 87), .ref (g 94), .int 0, .int 0, .int 0])), ((g 66), .inr (5, [.ref (g 67), .ref (g 68), .ref (g 69)])), ((g 67), .inl ((a 67), 240, .inr (.inl (fun _ => 0))))] := hD
              refine lv_iconst (v := 0) hx hb dX8_row_46 (by decide) ?_
              exact e_i hx hb hr hlocks hP hD hS (fun _ => 0) [] rfl rfl (by unfold s_row; (repeat' split) <;> first | rfl | omega) dX8_row_47
            · have c6 := i_nle 0 p2.toInt (by decide) rfl c6
              refine lv_bipush (v := (-3)) hx hb dX8_row_33 (by decide) ?_
              exact e_i hx hb hr hlocks hP hD hS (fun _ => 0) [] rfl rfl (by unfold s_row; (repeat' split) <;> first | rfl | omega) dX8_row_35
          · have c5 := i_nle p2.toInt 60 rfl (by decide) c5
            refine lv_bipush (v := (-2)) hx hb dX8_row_26 (by decide) ?_
            exact e_i hx hb hr hlocks hP hD hS (fun _ => 0) [] rfl rfl (by unfold s_row; (repeat' split) <;> first | rfl | omega) dX8_row_28
  · refine m_of (Qc := fun A => QI dC dI A (fun r : Int32 => r = s_row (2 : Int32).toInt p1.toInt p2.toInt) (fun f => [])) (lv := [(0, .ref (g 0)), (1, .int 2), (2, .int p1), (3, .int p2)]) (by decide) (Nat.le_of_ble_eq_true rfl) rfl ?_
    intro p e s m below meth c A ls hx hb hr hml hT hown hlocks hname hP hK hD hS hA hl
    have hown : s.vm.findClass RX8 = some m.cls := hown
    have hz0 : (2 : Int32).toInt = 2 := by decide
    refine lv_aload_n hx hb dX8_row_0 rfl (lv_at hl 0 rfl) ?_
    refine va_get (D := (dC, dI)) (ci := 8) (v := .ref (g 66)) (C := RX8) (T := TX8) (N := 14) hx hb hT inT8 hown hK hP 0 rfl rfl 6 (by decide) (hT _ mw_222) (fun _ h9 => h9) rfl dX8_row_1 ?_
    refine lv_iload_n hx hb dX8_row_4 rfl (lv_at hl 1 rfl) ?_
    refine c_Vi (C := RX5) (As := [.int 2]) (rest := []) (wr := [((g 0), .inr (8, [.ref (g 1), .ref (g 2), .ref (g 4), .ref (g 16), .ref (g 64), .ref (g 65), .ref (g 66), .ref (g 70), .ref (g 75), .ref (g 87), .ref (g 94), .int 0, .int 0, .int 0])), ((g 69), .inl ((a 69), 4, .inl (fun _ => 0))), ((g 68), .inl ((a 68), 4, .inl nF)), ((g 67), .inl ((a 67), 240, .inr (.inl (fun _ => 0))))]) (n := 1) ⟨hx, hb, hml, hown, hT⟩ (k_X5_isSlot_4 l dC dI g a ) hK hP hD hS hA [] rfl [1] [0, 2, 3, 4] rfl rfl rfl rfl (by decide) rfl rfl mw_223 mw_224 mw_225 mw_226 mw_227 (by decide +kernel) ⟨Nat.le_of_ble_eq_true rfl, Nat.le_of_ble_eq_true rfl⟩ ⟨rfl, rfl⟩ rfl hl.1 (Nat.le_of_ble_eq_true rfl) rfl dX8_row_5 ⟨Nat.zero_le _, Nat.zero_le _⟩ (fun r f1 H locs er hP hD hS => ?_)
    have hP : va_P (dC, dI) vwCl [((g 0), .inr (8, [.ref (g 1), .ref (g 2), .ref (g 4), .ref (g 16), .ref (g 64), .ref (g 65), .ref (g 66), .ref (g 70), .ref (g 75), .ref (g 87), .ref (g 94), .int 0, .int 0, .int 0])), ((g 69), .inl ((a 69), 4, .inl (fun _ => 0))), ((g 68), .inl ((a 68), 4, .inl nF)), ((g 67), .inl ((a 67), 240, .inr (.inl (fun _ => 0)))), ((g 66), .inr (5, [.ref (g 67), .ref (g 68), .ref (g 69)]))] H := hP
    have hD : va_D A [((g 0), .inr (8, [.ref (g 1), .ref (g 2), .ref (g 4), .ref (g 16), .ref (g 64), .ref (g 65), .ref (g 66), .ref (g 70), .ref (g 75), .ref (g 87), .ref (g 94), .int 0, .int 0, .int 0])), ((g 69), .inl ((a 69), 4, .inl (fun _ => 0))), ((g 68), .inl ((a 68), 4, .inl nF)), ((g 67), .inl ((a 67), 240, .inr (.inl (fun _ => 0)))), ((g 66), .inr (5, [.ref (g 67), .ref (g 68), .ref (g 69)]))] := hD
    have er : r = 1 := er
    subst er
    refine lv_if_eq (tgt := 26) hx hb dX8_row_8 (by decide) (fun c2 => ?_) (fun c2 => ?_)
    · exact absurd c2 (by decide)
    · refine lv_iload_n hx hb dX8_row_11 rfl (lv_at hl 2 rfl) ?_
      refine lv_if_lt (tgt := 26) hx hb dX8_row_12 (by decide) (fun c3 => ?_) (fun c3 => ?_)
      · have c3 := i_lt p1.toInt 0 rfl (by decide) c3
        refine lv_bipush (v := (-2)) hx hb dX8_row_26 (by decide) ?_
        exact e_i hx hb hr hlocks hP hD hS (fun _ => 0) [] rfl rfl (by unfold s_row; (repeat' split) <;> first | rfl | omega) dX8_row_28
      · have c3 := i_nlt p1.toInt 0 rfl (by decide) c3
        refine lv_iload_n hx hb dX8_row_15 rfl (lv_at hl 2 rfl) ?_
        refine lv_iconst (v := 3) hx hb dX8_row_16 (by decide) ?_
        refine lv_icmp_gt (tgt := 26) hx hb dX8_row_17 (by decide) (fun c4 => ?_) (fun c4 => ?_)
        · have c4 := i_lt 3 p1.toInt (by decide) rfl c4
          refine lv_bipush (v := (-2)) hx hb dX8_row_26 (by decide) ?_
          exact e_i hx hb hr hlocks hP hD hS (fun _ => 0) [] rfl rfl (by unfold s_row; (repeat' split) <;> first | rfl | omega) dX8_row_28
        · have c4 := i_nlt 3 p1.toInt (by decide) rfl c4
          refine lv_iload_n hx hb dX8_row_20 rfl (lv_at hl 3 rfl) ?_
          refine lv_bipush (v := 60) hx hb dX8_row_21 (by decide) ?_
          refine lv_icmp_le (tgt := 29) hx hb dX8_row_23 (by decide) (fun c5 => ?_) (fun c5 => ?_)
          · have c5 := i_le p2.toInt 60 rfl (by decide) c5
            refine lv_iload_n hx hb dX8_row_29 rfl (lv_at hl 3 rfl) ?_
            refine lv_if_ge (tgt := 36) hx hb dX8_row_30 (by decide) (fun c6 => ?_) (fun c6 => ?_)
            · have c6 := i_le 0 p2.toInt (by decide) rfl c6
              refine lv_aload_n hx hb dX8_row_36 rfl (lv_at hl 0 rfl) ?_
              refine va_get (D := (dC, dI)) (ci := 8) (v := .ref (g 66)) (C := RX8) (T := TX8) (N := 14) hx hb hT inT8 hown hK hP 0 rfl rfl 6 (by decide) (hT _ mw_222) (fun _ h9 => h9) rfl dX8_row_37 ?_
              refine lv_iload_n hx hb dX8_row_40 rfl (lv_at hl 1 rfl) ?_
              refine lv_iload_n hx hb dX8_row_41 rfl (lv_at hl 2 rfl) ?_
              refine lv_iload_n hx hb dX8_row_42 rfl (lv_at hl 3 rfl) ?_
              refine c_Vv (C := RX5) (As := [.int 2, .int p1, .int p2]) (rest := []) (wr := [((g 0), .inr (8, [.ref (g 1), .ref (g 2), .ref (g 4), .ref (g 16), .ref (g 64), .ref (g 65), .ref (g 66), .ref (g 70), .ref (g 75), .ref (g 87), .ref (g 94), .int 0, .int 0, .int 0]))]) (n := 3) ⟨hx, hb, hml, hown, hT⟩ (k_X5_makeRow_3 l dC dI g a p1 p2) hK hP hD hS hA [0, 1, 2] rfl [4, 1, 2, 3] [0] rfl rfl rfl rfl (by decide) rfl rfl mw_284 mw_285 mw_286 mw_226 mw_287 (by decide +kernel) ⟨Nat.le_of_ble_eq_true rfl, Nat.le_of_ble_eq_true rfl⟩ ⟨rfl, rfl⟩ rfl hl.1 (Nat.le_of_ble_eq_true rfl) rfl dX8_row_43 ⟨Nat.zero_le _, Nat.zero_le _⟩ (fun f7 H locs hP hD hS => ?_)
              have hP : va_P (dC, dI) vwCl [((g 0), .inr (8, [.ref (g 1), .ref (g 2), .ref (g 4), .ref (g 16), .ref (g 64), .ref (g 65), .ref (g 66), .ref (g 70), .ref (g 75), .ref (g 87), .ref (g 94), .int 0, .int 0, .int 0])), ((g 66), .inr (5, [.ref (g 67), .ref (g 68), .ref (g 69)])), ((g 67), .inl ((a 67), 240, .inr (.inl (fun _ => 0))))] H := hP
              have hD : va_D A [((g 0), .inr (8, [.ref (g 1), .ref (g 2), .ref (g 4), .ref (g 16), .ref (g 64), .ref (g 65), .ref (g 66), .ref (g 70), .ref (g 75), .ref (g 87), .ref (g 94), .int 0, .int 0, .int 0])), ((g 66), .inr (5, [.ref (g 67), .ref (g 68), .ref (g 69)])), ((g 67), .inl ((a 67), 240, .inr (.inl (fun _ => 0))))] := hD
              refine lv_iconst (v := 0) hx hb dX8_row_46 (by decide) ?_
              exact e_i hx hb hr hlocks hP hD hS (fun _ => 0) [] rfl rfl (by unfold s_row; (repeat' split) <;> first | rfl | omega) dX8_row_47
            · have c6 := i_nle 0 p2.toInt (by decide) rfl c6
              refine lv_bipush (v := (-3)) hx hb dX8_row_33 (by decide) ?_
              exact e_i hx hb hr hlocks hP hD hS (fun _ => 0) [] rfl rfl (by unfold s_row; (repeat' split) <;> first | rfl | omega) dX8_row_35
          · have c5 := i_nle p2.toInt 60 rfl (by decide) c5
            refine lv_bipush (v := (-2)) hx hb dX8_row_26 (by decide) ?_
            exact e_i hx hb hr hlocks hP hD hS (fun _ => 0) [] rfl rfl (by unfold s_row; (repeat' split) <;> first | rfl | omega) dX8_row_28
  · refine m_of (Qc := fun A => QI dC dI A (fun r : Int32 => r = s_row (3 : Int32).toInt p1.toInt p2.toInt) (fun f => [])) (lv := [(0, .ref (g 0)), (1, .int 3), (2, .int p1), (3, .int p2)]) (by decide) (Nat.le_of_ble_eq_true rfl) rfl ?_
    intro p e s m below meth c A ls hx hb hr hml hT hown hlocks hname hP hK hD hS hA hl
    have hown : s.vm.findClass RX8 = some m.cls := hown
    have hz0 : (3 : Int32).toInt = 3 := by decide
    refine lv_aload_n hx hb dX8_row_0 rfl (lv_at hl 0 rfl) ?_
    refine va_get (D := (dC, dI)) (ci := 8) (v := .ref (g 66)) (C := RX8) (T := TX8) (N := 14) hx hb hT inT8 hown hK hP 0 rfl rfl 6 (by decide) (hT _ mw_222) (fun _ h9 => h9) rfl dX8_row_1 ?_
    refine lv_iload_n hx hb dX8_row_4 rfl (lv_at hl 1 rfl) ?_
    refine c_Vi (C := RX5) (As := [.int 3]) (rest := []) (wr := [((g 0), .inr (8, [.ref (g 1), .ref (g 2), .ref (g 4), .ref (g 16), .ref (g 64), .ref (g 65), .ref (g 66), .ref (g 70), .ref (g 75), .ref (g 87), .ref (g 94), .int 0, .int 0, .int 0])), ((g 69), .inl ((a 69), 4, .inl (fun _ => 0))), ((g 68), .inl ((a 68), 4, .inl nF)), ((g 67), .inl ((a 67), 240, .inr (.inl (fun _ => 0))))]) (n := 1) ⟨hx, hb, hml, hown, hT⟩ (k_X5_isSlot_5 l dC dI g a ) hK hP hD hS hA [] rfl [1] [0, 2, 3, 4] rfl rfl rfl rfl (by decide) rfl rfl mw_223 mw_224 mw_225 mw_226 mw_227 (by decide +kernel) ⟨Nat.le_of_ble_eq_true rfl, Nat.le_of_ble_eq_true rfl⟩ ⟨rfl, rfl⟩ rfl hl.1 (Nat.le_of_ble_eq_true rfl) rfl dX8_row_5 ⟨Nat.zero_le _, Nat.zero_le _⟩ (fun r f1 H locs er hP hD hS => ?_)
    have hP : va_P (dC, dI) vwCl [((g 0), .inr (8, [.ref (g 1), .ref (g 2), .ref (g 4), .ref (g 16), .ref (g 64), .ref (g 65), .ref (g 66), .ref (g 70), .ref (g 75), .ref (g 87), .ref (g 94), .int 0, .int 0, .int 0])), ((g 69), .inl ((a 69), 4, .inl (fun _ => 0))), ((g 68), .inl ((a 68), 4, .inl nF)), ((g 67), .inl ((a 67), 240, .inr (.inl (fun _ => 0)))), ((g 66), .inr (5, [.ref (g 67), .ref (g 68), .ref (g 69)]))] H := hP
    have hD : va_D A [((g 0), .inr (8, [.ref (g 1), .ref (g 2), .ref (g 4), .ref (g 16), .ref (g 64), .ref (g 65), .ref (g 66), .ref (g 70), .ref (g 75), .ref (g 87), .ref (g 94), .int 0, .int 0, .int 0])), ((g 69), .inl ((a 69), 4, .inl (fun _ => 0))), ((g 68), .inl ((a 68), 4, .inl nF)), ((g 67), .inl ((a 67), 240, .inr (.inl (fun _ => 0)))), ((g 66), .inr (5, [.ref (g 67), .ref (g 68), .ref (g 69)]))] := hD
    have er : r = 1 := er
    subst er
    refine lv_if_eq (tgt := 26) hx hb dX8_row_8 (by decide) (fun c2 => ?_) (fun c2 => ?_)
    · exact absurd c2 (by decide)
    · refine lv_iload_n hx hb dX8_row_11 rfl (lv_at hl 2 rfl) ?_
      refine lv_if_lt (tgt := 26) hx hb dX8_row_12 (by decide) (fun c3 => ?_) (fun c3 => ?_)
      · have c3 := i_lt p1.toInt 0 rfl (by decide) c3
        refine lv_bipush (v := (-2)) hx hb dX8_row_26 (by decide) ?_
        exact e_i hx hb hr hlocks hP hD hS (fun _ => 0) [] rfl rfl (by unfold s_row; (repeat' split) <;> first | rfl | omega) dX8_row_28
      · have c3 := i_nlt p1.toInt 0 rfl (by decide) c3
        refine lv_iload_n hx hb dX8_row_15 rfl (lv_at hl 2 rfl) ?_
        refine lv_iconst (v := 3) hx hb dX8_row_16 (by decide) ?_
        refine lv_icmp_gt (tgt := 26) hx hb dX8_row_17 (by decide) (fun c4 => ?_) (fun c4 => ?_)
        · have c4 := i_lt 3 p1.toInt (by decide) rfl c4
          refine lv_bipush (v := (-2)) hx hb dX8_row_26 (by decide) ?_
          exact e_i hx hb hr hlocks hP hD hS (fun _ => 0) [] rfl rfl (by unfold s_row; (repeat' split) <;> first | rfl | omega) dX8_row_28
        · have c4 := i_nlt 3 p1.toInt (by decide) rfl c4
          refine lv_iload_n hx hb dX8_row_20 rfl (lv_at hl 3 rfl) ?_
          refine lv_bipush (v := 60) hx hb dX8_row_21 (by decide) ?_
          refine lv_icmp_le (tgt := 29) hx hb dX8_row_23 (by decide) (fun c5 => ?_) (fun c5 => ?_)
          · have c5 := i_le p2.toInt 60 rfl (by decide) c5
            refine lv_iload_n hx hb dX8_row_29 rfl (lv_at hl 3 rfl) ?_
            refine lv_if_ge (tgt := 36) hx hb dX8_row_30 (by decide) (fun c6 => ?_) (fun c6 => ?_)
            · have c6 := i_le 0 p2.toInt (by decide) rfl c6
              refine lv_aload_n hx hb dX8_row_36 rfl (lv_at hl 0 rfl) ?_
              refine va_get (D := (dC, dI)) (ci := 8) (v := .ref (g 66)) (C := RX8) (T := TX8) (N := 14) hx hb hT inT8 hown hK hP 0 rfl rfl 6 (by decide) (hT _ mw_222) (fun _ h9 => h9) rfl dX8_row_37 ?_
              refine lv_iload_n hx hb dX8_row_40 rfl (lv_at hl 1 rfl) ?_
              refine lv_iload_n hx hb dX8_row_41 rfl (lv_at hl 2 rfl) ?_
              refine lv_iload_n hx hb dX8_row_42 rfl (lv_at hl 3 rfl) ?_
              refine c_Vv (C := RX5) (As := [.int 3, .int p1, .int p2]) (rest := []) (wr := [((g 0), .inr (8, [.ref (g 1), .ref (g 2), .ref (g 4), .ref (g 16), .ref (g 64), .ref (g 65), .ref (g 66), .ref (g 70), .ref (g 75), .ref (g 87), .ref (g 94), .int 0, .int 0, .int 0]))]) (n := 3) ⟨hx, hb, hml, hown, hT⟩ (k_X5_makeRow_4 l dC dI g a p1 p2) hK hP hD hS hA [0, 1, 2] rfl [4, 1, 2, 3] [0] rfl rfl rfl rfl (by decide) rfl rfl mw_284 mw_285 mw_286 mw_226 mw_287 (by decide +kernel) ⟨Nat.le_of_ble_eq_true rfl, Nat.le_of_ble_eq_true rfl⟩ ⟨rfl, rfl⟩ rfl hl.1 (Nat.le_of_ble_eq_true rfl) rfl dX8_row_43 ⟨Nat.zero_le _, Nat.zero_le _⟩ (fun f7 H locs hP hD hS => ?_)
              have hP : va_P (dC, dI) vwCl [((g 0), .inr (8, [.ref (g 1), .ref (g 2), .ref (g 4), .ref (g 16), .ref (g 64), .ref (g 65), .ref (g 66), .ref (g 70), .ref (g 75), .ref (g 87), .ref (g 94), .int 0, .int 0, .int 0])), ((g 66), .inr (5, [.ref (g 67), .ref (g 68), .ref (g 69)])), ((g 67), .inl ((a 67), 240, .inr (.inl (fun _ => 0))))] H := hP
              have hD : va_D A [((g 0), .inr (8, [.ref (g 1), .ref (g 2), .ref (g 4), .ref (g 16), .ref (g 64), .ref (g 65), .ref (g 66), .ref (g 70), .ref (g 75), .ref (g 87), .ref (g 94), .int 0, .int 0, .int 0])), ((g 66), .inr (5, [.ref (g 67), .ref (g 68), .ref (g 69)])), ((g 67), .inl ((a 67), 240, .inr (.inl (fun _ => 0))))] := hD
              refine lv_iconst (v := 0) hx hb dX8_row_46 (by decide) ?_
              exact e_i hx hb hr hlocks hP hD hS (fun _ => 0) [] rfl rfl (by unfold s_row; (repeat' split) <;> first | rfl | omega) dX8_row_47
            · have c6 := i_nle 0 p2.toInt (by decide) rfl c6
              refine lv_bipush (v := (-3)) hx hb dX8_row_33 (by decide) ?_
              exact e_i hx hb hr hlocks hP hD hS (fun _ => 0) [] rfl rfl (by unfold s_row; (repeat' split) <;> first | rfl | omega) dX8_row_35
          · have c5 := i_nle p2.toInt 60 rfl (by decide) c5
            refine lv_bipush (v := (-2)) hx hb dX8_row_26 (by decide) ?_
            exact e_i hx hb hr hlocks hP hD hS (fun _ => 0) [] rfl rfl (by unfold s_row; (repeat' split) <;> first | rfl | omega) dX8_row_28
  · refine m_of (Qc := fun A => QI dC dI A (fun r : Int32 => r = s_row p0.toInt p1.toInt p2.toInt) (fun f => [])) (lv := [(0, .ref (g 0)), (1, .int p0), (2, .int p1), (3, .int p2)]) (by decide) (Nat.le_of_ble_eq_true rfl) rfl ?_
    intro p e s m below meth c A ls hx hb hr hml hT hown hlocks hname hP hK hD hS hA hl
    have hown : s.vm.findClass RX8 = some m.cls := hown
    refine lv_aload_n hx hb dX8_row_0 rfl (lv_at hl 0 rfl) ?_
    refine va_get (D := (dC, dI)) (ci := 8) (v := .ref (g 66)) (C := RX8) (T := TX8) (N := 14) hx hb hT inT8 hown hK hP 0 rfl rfl 6 (by decide) (hT _ mw_222) (fun _ h9 => h9) rfl dX8_row_1 ?_
    refine lv_iload_n hx hb dX8_row_4 rfl (lv_at hl 1 rfl) ?_
    refine c_Vi (C := RX5) (As := [.int p0]) (rest := []) (wr := [((g 0), .inr (8, [.ref (g 1), .ref (g 2), .ref (g 4), .ref (g 16), .ref (g 64), .ref (g 65), .ref (g 66), .ref (g 70), .ref (g 75), .ref (g 87), .ref (g 94), .int 0, .int 0, .int 0])), ((g 69), .inl ((a 69), 4, .inl (fun _ => 0))), ((g 68), .inl ((a 68), 4, .inl nF)), ((g 67), .inl ((a 67), 240, .inr (.inl (fun _ => 0))))]) (n := 1) ⟨hx, hb, hml, hown, hT⟩ (k_X5_isSlot l dC dI g a p0) hK hP hD hS hA [] rfl [1] [0, 2, 3, 4] rfl rfl rfl rfl (by decide) rfl rfl mw_223 mw_224 mw_225 mw_226 mw_227 (by decide +kernel) ⟨Nat.le_of_ble_eq_true rfl, Nat.le_of_ble_eq_true rfl⟩ ⟨rfl, rfl⟩ rfl hl.1 (Nat.le_of_ble_eq_true rfl) rfl dX8_row_5 ⟨Nat.zero_le _, Nat.zero_le _⟩ (fun r f1 H locs er hP hD hS => ?_)
    have hP : va_P (dC, dI) vwCl [((g 0), .inr (8, [.ref (g 1), .ref (g 2), .ref (g 4), .ref (g 16), .ref (g 64), .ref (g 65), .ref (g 66), .ref (g 70), .ref (g 75), .ref (g 87), .ref (g 94), .int 0, .int 0, .int 0])), ((g 69), .inl ((a 69), 4, .inl (fun _ => 0))), ((g 68), .inl ((a 68), 4, .inl nF)), ((g 67), .inl ((a 67), 240, .inr (.inl (fun _ => 0)))), ((g 66), .inr (5, [.ref (g 67), .ref (g 68), .ref (g 69)]))] H := hP
    have hD : va_D A [((g 0), .inr (8, [.ref (g 1), .ref (g 2), .ref (g 4), .ref (g 16), .ref (g 64), .ref (g 65), .ref (g 66), .ref (g 70), .ref (g 75), .ref (g 87), .ref (g 94), .int 0, .int 0, .int 0])), ((g 69), .inl ((a 69), 4, .inl (fun _ => 0))), ((g 68), .inl ((a 68), 4, .inl nF)), ((g 67), .inl ((a 67), 240, .inr (.inl (fun _ => 0)))), ((g 66), .inr (5, [.ref (g 67), .ref (g 68), .ref (g 69)]))] := hD
    by_cases hc : 0 ≤ p0.toInt ∧ p0.toInt ≤ 3
    · omega
    · have er : r = 0 := er.trans (if_neg hc)
      subst er
      refine lv_if_eq (tgt := 26) hx hb dX8_row_8 (by decide) (fun c2 => ?_) (fun c2 => ?_)
      · refine lv_bipush (v := (-2)) hx hb dX8_row_26 (by decide) ?_
        exact e_i hx hb hr hlocks hP hD hS (fun _ => 0) [] rfl rfl (by unfold s_row; (repeat' split) <;> first | rfl | omega) dX8_row_28
      · exact absurd c2 (by decide)
  · refine m_of (Qc := fun A => QI dC dI A (fun r : Int32 => r = s_row p0.toInt p1.toInt p2.toInt) (fun f => [])) (lv := [(0, .ref (g 0)), (1, .int p0), (2, .int p1), (3, .int p2)]) (by decide) (Nat.le_of_ble_eq_true rfl) rfl ?_
    intro p e s m below meth c A ls hx hb hr hml hT hown hlocks hname hP hK hD hS hA hl
    have hown : s.vm.findClass RX8 = some m.cls := hown
    refine lv_aload_n hx hb dX8_row_0 rfl (lv_at hl 0 rfl) ?_
    refine va_get (D := (dC, dI)) (ci := 8) (v := .ref (g 66)) (C := RX8) (T := TX8) (N := 14) hx hb hT inT8 hown hK hP 0 rfl rfl 6 (by decide) (hT _ mw_222) (fun _ h9 => h9) rfl dX8_row_1 ?_
    refine lv_iload_n hx hb dX8_row_4 rfl (lv_at hl 1 rfl) ?_
    refine c_Vi (C := RX5) (As := [.int p0]) (rest := []) (wr := [((g 0), .inr (8, [.ref (g 1), .ref (g 2), .ref (g 4), .ref (g 16), .ref (g 64), .ref (g 65), .ref (g 66), .ref (g 70), .ref (g 75), .ref (g 87), .ref (g 94), .int 0, .int 0, .int 0])), ((g 69), .inl ((a 69), 4, .inl (fun _ => 0))), ((g 68), .inl ((a 68), 4, .inl nF)), ((g 67), .inl ((a 67), 240, .inr (.inl (fun _ => 0))))]) (n := 1) ⟨hx, hb, hml, hown, hT⟩ (k_X5_isSlot l dC dI g a p0) hK hP hD hS hA [] rfl [1] [0, 2, 3, 4] rfl rfl rfl rfl (by decide) rfl rfl mw_223 mw_224 mw_225 mw_226 mw_227 (by decide +kernel) ⟨Nat.le_of_ble_eq_true rfl, Nat.le_of_ble_eq_true rfl⟩ ⟨rfl, rfl⟩ rfl hl.1 (Nat.le_of_ble_eq_true rfl) rfl dX8_row_5 ⟨Nat.zero_le _, Nat.zero_le _⟩ (fun r f1 H locs er hP hD hS => ?_)
    have hP : va_P (dC, dI) vwCl [((g 0), .inr (8, [.ref (g 1), .ref (g 2), .ref (g 4), .ref (g 16), .ref (g 64), .ref (g 65), .ref (g 66), .ref (g 70), .ref (g 75), .ref (g 87), .ref (g 94), .int 0, .int 0, .int 0])), ((g 69), .inl ((a 69), 4, .inl (fun _ => 0))), ((g 68), .inl ((a 68), 4, .inl nF)), ((g 67), .inl ((a 67), 240, .inr (.inl (fun _ => 0)))), ((g 66), .inr (5, [.ref (g 67), .ref (g 68), .ref (g 69)]))] H := hP
    have hD : va_D A [((g 0), .inr (8, [.ref (g 1), .ref (g 2), .ref (g 4), .ref (g 16), .ref (g 64), .ref (g 65), .ref (g 66), .ref (g 70), .ref (g 75), .ref (g 87), .ref (g 94), .int 0, .int 0, .int 0])), ((g 69), .inl ((a 69), 4, .inl (fun _ => 0))), ((g 68), .inl ((a 68), 4, .inl nF)), ((g 67), .inl ((a 67), 240, .inr (.inl (fun _ => 0)))), ((g 66), .inr (5, [.ref (g 67), .ref (g 68), .ref (g 69)]))] := hD
    by_cases hc : 0 ≤ p0.toInt ∧ p0.toInt ≤ 3
    · omega
    · have er : r = 0 := er.trans (if_neg hc)
      subst er
      refine lv_if_eq (tgt := 26) hx hb dX8_row_8 (by decide) (fun c2 => ?_) (fun c2 => ?_)
      · refine lv_bipush (v := (-2)) hx hb dX8_row_26 (by decide) ?_
        exact e_i hx hb hr hlocks hP hD hS (fun _ => 0) [] rfl rfl (by unfold s_row; (repeat' split) <;> first | rfl | omega) dX8_row_28
      · exact absurd c2 (by decide)
set_option maxRecDepth 100000 in
set_option maxHeartbeats 4000000 in
theorem k_X9_isSlot_2 (l : Launch) (dC : Nat → ClassId) (dI : Nat → Nat → Nat) (g : Nat → Nat) (a : Nat → ClassId)   : MI l dC dI yX9_isSlot (Cond.code yX9_isSlot cX9_isSlot 1 (some .boolean)) ({ frames := 1, cells := 0, slots := 0, locals := 25 }) [.int 0] [] [] (fun r : Int32 => r = 1) (fun f => []) := by
  refine m_of (Qc := fun A => QI dC dI A (fun r : Int32 => r = 1) (fun f => [])) (lv := [(0, .int 0)]) (by decide) (Nat.le_of_ble_eq_true rfl) rfl ?_
  intro p e s m below meth c A ls hx hb hr hml hT hown hlocks hname hP hK hD hS hA hl
  have hown : s.vm.findClass RX9 = some m.cls := hown
  refine lv_iload_n hx hb dX9_isSlot_0 rfl (lv_at hl 0 rfl) ?_
  refine lv_i2l (v := 0) hx hb dX9_isSlot_1 (by decide) ?_
  refine lv_lconst (v := 0) hx hb dX9_isSlot_2 (by decide) ?_
  refine lv_ldc2 (v := 3) hx hb hown (hT _ mw_232) dX9_isSlot_3 ?_
  refine c_Si (As := [.long 0, .long 0, .long 3]) (rest := []) (wr := []) (n := 3) ⟨hx, hb, hml, hown, hT⟩ (k_X9_in l dC dI g a 0 0 3 0 0 3 (by decide) (by decide) (by decide)) hK hP hD hS hA [] rfl [] [] rfl rfl rfl rfl (by decide) mw_17 mw_18 mw_19 mw_20 (by decide +kernel) ⟨Nat.le_of_ble_eq_true rfl, Nat.le_of_ble_eq_true rfl⟩ ⟨rfl, rfl⟩ rfl hl.1 (Nat.le_of_ble_eq_true rfl) rfl dX9_isSlot_6 ⟨Nat.zero_le _, Nat.zero_le _⟩ (fun r f1 H locs er hP hD hS => ?_)
  have hP : va_P (dC, dI) vwCl [] H := hP
  have hD : va_D A [] := hD
  by_cases hc : (0 : Int) ≤ (0 : Int) ∧ (0 : Int) ≤ (3 : Int)
  · have er : r = 1 := er.trans (if_pos hc)
    subst er
    exact e_z hx hb hr hlocks hP hD hS (fun _ => 0) [] rfl rfl rfl rfl dX9_isSlot_9
  · omega
