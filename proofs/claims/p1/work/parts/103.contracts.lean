set_option maxRecDepth 100000 in
set_option maxHeartbeats 4000000 in
theorem k_X9_good (l : Launch) (dC : Nat → ClassId) (dI : Nat → Nat → Nat) (g : Nat → Nat) (a : Nat → ClassId)   : MI l dC dI yX9_good (Cond.code yX9_good cX9_good 1 (some .boolean)) ({ frames := 0, cells := 0, slots := 0, locals := 0 }) [.ref (g 0)] [] [((g 0), .inr (9, oM g 0 0 0 0 0 0 (-1)))] (fun r : Int32 => r = 1) (fun f => [((g 0), .inr (9, oM g 0 0 0 0 0 0 (-1)))]) := by
  refine m_of (Qc := fun A => QI dC dI A (fun r : Int32 => r = 1) (fun f => [((g 0), .inr (9, oM g 0 0 0 0 0 0 (-1)))])) (lv := [(0, .ref (g 0))]) (by decide) (Nat.le_of_ble_eq_true rfl) rfl ?_
  intro p e s m below meth c A ls hx hb hr hml hT hown hlocks hname hP hK hD hS hA hl
  have hown : s.vm.findClass RX9 = some m.cls := hown
  refine lv_aload_n hx hb dX9_good_0 rfl (lv_at hl 0 rfl) ?_
  refine va_get (D := (dC, dI)) (ci := 9) (v := .int 0) (C := RX9) (T := TX9) (N := 61) hx hb hT inT9 hown hK hP 0 rfl rfl 12 (by decide) (hT _ mw_79) (fun _ h9 => h9) rfl dX9_good_1 ?_
  refine lv_if_ne (tgt := 11) hx hb dX9_good_4 (by decide) (fun c1 => ?_) (fun c1 => ?_)
  · exact absurd c1 (by decide)
  · refine lv_iconst (v := 1) hx hb dX9_good_7 (by decide) ?_
    refine lv_goto (tgt := 12) hx hb dX9_good_8 (by decide) ?_
    exact e_z hx hb hr hlocks hP hD hS (fun _ => 0) [0] rfl rfl rfl rfl dX9_good_12
set_option maxRecDepth 100000 in
set_option maxHeartbeats 4000000 in
theorem k_X9_brigade (l : Launch) (dC : Nat → ClassId) (dI : Nat → Nat → Nat) (g : Nat → Nat) (a : Nat → ClassId)   : MI l dC dI yX9_brigade (Cond.code yX9_brigade cX9_brigade 2 (some .int)) ({ frames := 2, cells := 0, slots := 0, locals := 42 }) [.ref (g 0)] [((a 1), .int), ((a 14), .int)] [((g 0), .inr (9, oM g 0 0 0 0 0 0 (-1))), ((g 1), .inl ((a 1), 68, .inl (fun _ => 0))), ((g 14), .inl ((a 14), 68, .inl (fun _ => 0)))] (fun r : Int32 => r = 0) (fun f => []) := by
  refine m_of (Qc := fun A => QI dC dI A (fun r : Int32 => r = 0) (fun f => [])) (lv := [(0, .ref (g 0))]) (by decide) (Nat.le_of_ble_eq_true rfl) rfl ?_
  intro p e s m below meth c A ls hx hb hr hml hT hown hlocks hname hP hK hD hS hA hl
  have hown : s.vm.findClass RX9 = some m.cls := hown
  refine lv_aload_n hx hb dX9_brigade_0 rfl (lv_at hl 0 rfl) ?_
  refine lv_aload_n hx hb dX9_brigade_1 rfl (lv_at hl 0 rfl) ?_
  refine va_get (D := (dC, dI)) (ci := 9) (v := .int 0) (C := RX9) (T := TX9) (N := 61) hx hb hT inT9 hown hK hP 0 rfl rfl 5 (by decide) (hT _ mw_14) (fun _ h9 => h9) rfl dX9_brigade_2 ?_
  refine va_put (D := (dC, dI)) (ci := 9) (v := .int 0) (ty := .int) (C := RX9) (T := TX9) (N := 61) hx hb hT inT9 tyX9 tyX9_ok nmX9 hown hK hP hD hS 0 rfl rfl 7 (by decide) (hT _ mw_77) (fun _ h9 => h9) rfl (by decide +kernel) rfl rfl (Nat.le_of_ble_eq_true rfl) dX9_brigade_5 (fun H locs hP hD hS => ?_)
  have hP : va_P (dC, dI) vwCl [((g 0), .inr (9, oM g 0 0 0 0 0 0 (-1))), ((g 1), .inl ((a 1), 68, .inl (fun _ => 0))), ((g 14), .inl ((a 14), 68, .inl (fun _ => 0)))] H := hP
  have hD : va_D A [((g 0), .inr (9, oM g 0 0 0 0 0 0 (-1))), ((g 1), .inl ((a 1), 68, .inl (fun _ => 0))), ((g 14), .inl ((a 14), 68, .inl (fun _ => 0)))] := hD
  refine lv_aload_n hx hb dX9_brigade_8 rfl (lv_at hl 0 rfl) ?_
  refine lv_iconst (v := 0) hx hb dX9_brigade_9 (by decide) ?_
  refine va_put (D := (dC, dI)) (ci := 9) (v := .int 0) (ty := .int) (C := RX9) (T := TX9) (N := 61) hx hb hT inT9 tyX9 tyX9_ok nmX9 hown hK hP hD hS 0 rfl rfl 5 (by decide) (hT _ mw_14) (fun _ h9 => h9) rfl (by decide +kernel) rfl rfl (Nat.le_of_ble_eq_true rfl) dX9_brigade_10 (fun H locs hP hD hS => ?_)
  have hP : va_P (dC, dI) vwCl [((g 0), .inr (9, oM g 0 0 0 0 0 0 (-1))), ((g 1), .inl ((a 1), 68, .inl (fun _ => 0))), ((g 14), .inl ((a 14), 68, .inl (fun _ => 0)))] H := hP
  have hD : va_D A [((g 0), .inr (9, oM g 0 0 0 0 0 0 (-1))), ((g 1), .inl ((a 1), 68, .inl (fun _ => 0))), ((g 14), .inl ((a 14), 68, .inl (fun _ => 0)))] := hD
  refine lv_aload_n hx hb dX9_brigade_13 rfl (lv_at hl 0 rfl) ?_
  refine lv_iconst (v := 0) hx hb dX9_brigade_14 (by decide) ?_
  refine va_put (D := (dC, dI)) (ci := 9) (v := .int 0) (ty := .int) (C := RX9) (T := TX9) (N := 61) hx hb hT inT9 tyX9 tyX9_ok nmX9 hown hK hP hD hS 0 rfl rfl 8 (by decide) (hT _ mw_78) (fun _ h9 => h9) rfl (by decide +kernel) rfl rfl (Nat.le_of_ble_eq_true rfl) dX9_brigade_15 (fun H locs hP hD hS => ?_)
  have hP : va_P (dC, dI) vwCl [((g 0), .inr (9, oM g 0 0 0 0 0 0 (-1))), ((g 1), .inl ((a 1), 68, .inl (fun _ => 0))), ((g 14), .inl ((a 14), 68, .inl (fun _ => 0)))] H := hP
  have hD : va_D A [((g 0), .inr (9, oM g 0 0 0 0 0 0 (-1))), ((g 1), .inl ((a 1), 68, .inl (fun _ => 0))), ((g 14), .inl ((a 14), 68, .inl (fun _ => 0)))] := hD
  refine lv_aload_n hx hb dX9_brigade_18 rfl (lv_at hl 0 rfl) ?_
  refine lv_iconst (v := 0) hx hb dX9_brigade_19 (by decide) ?_
  refine va_put (D := (dC, dI)) (ci := 9) (v := .int 0) (ty := .int) (C := RX9) (T := TX9) (N := 61) hx hb hT inT9 tyX9 tyX9_ok nmX9 hown hK hP hD hS 0 rfl rfl 12 (by decide) (hT _ mw_79) (fun _ h9 => h9) rfl (by decide +kernel) rfl rfl (Nat.le_of_ble_eq_true rfl) dX9_brigade_20 (fun H locs hP hD hS => ?_)
  have hP : va_P (dC, dI) vwCl [((g 0), .inr (9, oM g 0 0 0 0 0 0 (-1))), ((g 1), .inl ((a 1), 68, .inl (fun _ => 0))), ((g 14), .inl ((a 14), 68, .inl (fun _ => 0)))] H := hP
  have hD : va_D A [((g 0), .inr (9, oM g 0 0 0 0 0 0 (-1))), ((g 1), .inl ((a 1), 68, .inl (fun _ => 0))), ((g 14), .inl ((a 14), 68, .inl (fun _ => 0)))] := hD
  refine lv_aload_n hx hb dX9_brigade_23 rfl (lv_at hl 0 rfl) ?_
  refine lv_iconst (v := (-1)) hx hb dX9_brigade_24 (by decide) ?_
  refine va_put (D := (dC, dI)) (ci := 9) (v := .int (-1)) (ty := .int) (C := RX9) (T := TX9) (N := 61) hx hb hT inT9 tyX9 tyX9_ok nmX9 hown hK hP hD hS 0 rfl rfl 13 (by decide) (hT _ mw_80) (fun _ h9 => h9) rfl (by decide +kernel) rfl rfl (Nat.le_of_ble_eq_true rfl) dX9_brigade_25 (fun H locs hP hD hS => ?_)
  have hP : va_P (dC, dI) vwCl [((g 0), .inr (9, oM g 0 0 0 0 0 0 (-1))), ((g 1), .inl ((a 1), 68, .inl (fun _ => 0))), ((g 14), .inl ((a 14), 68, .inl (fun _ => 0)))] H := hP
  have hD : va_D A [((g 0), .inr (9, oM g 0 0 0 0 0 0 (-1))), ((g 1), .inl ((a 1), 68, .inl (fun _ => 0))), ((g 14), .inl ((a 14), 68, .inl (fun _ => 0)))] := hD
  refine lv_iconst (v := 0) hx hb dX9_brigade_28 (by decide) ?_
  refine lv_istore_n (lv' := [(1, .int 0), (0, .ref (g 0))]) hx hb dX9_brigade_29 rfl hl (by decide) rfl (fun ls hl => ?_)
  have loop1 : ∀ (n i1 : Nat) (x1 : Int32) (H : Heap) (locs : List Loc) (ls : Array Slot), i1 ≤ 68 → 68 + 1 ≤ i1 + n → x1 = nI i1 → va_P (dC, dI) vwCl [((g 0), .inr (9, oM g 0 0 0 0 0 0 (-1))), ((g 1), .inl ((a 1), 68, .inl (fun _ => 0))), ((g 14), .inl ((a 14), 68, .inl (fun _ => 0)))] H → va_D A [((g 0), .inr (9, oM g 0 0 0 0 0 0 (-1))), ((g 1), .inl ((a 1), 68, .inl (fun _ => 0))), ((g 14), .inl ((a 14), 68, .inl (fun _ => 0)))] → va_S A s.heap H locs → lv_has ls 2 [(1, .int x1), (0, .ref (g 0))] → W p l e ({ frames := 2, cells := 0, slots := 0, locals := 42 }) s m ([.ref (g 0)] : List Value).toArray below meth c H locs 0 0 (MQ below (QI dC dI A (fun r : Int32 => r = 0) (fun f => [])) ([.ref (g 0)] : List Value).toArray s 0 0 A) (F0 m 30 ls []) := by
    intro n
    induction n with
    | zero => exact fun i x H locs ls h1 h2 => absurd h2 (by omega)
    | succ n ih1 =>
      intro i1 x1 H locs ls hi hin ex1 hP hD hS hl
      refine lv_iload_n hx hb dX9_brigade_30 rfl (lv_at hl 0 rfl) ?_
      refine lv_bipush (v := 68) hx hb dX9_brigade_31 (by decide) ?_
      refine lv_icmp_ge (tgt := 49) hx hb dX9_brigade_33 (by decide) (fun cc_ => ?_) (fun cc_ => ?_)
      · refine lv_aload_n hx hb dX9_brigade_49 rfl (lv_at hl 1 rfl) ?_
        refine c_Vv (C := RX9) (As := []) (rest := []) (wr := [((g 1), .inl ((a 1), 68, .inl (fun _ => 0))), ((g 14), .inl ((a 14), 68, .inl (fun _ => 0)))]) (n := 0) ⟨hx, hb, hml, hown, hT⟩ (k_X9_advance l dC dI g a ) hK hP hD hS hA [] rfl [0] [1, 2] rfl rfl rfl rfl (by decide) rfl rfl mw_87 mw_88 mw_89 mw_19 mw_90 (by decide +kernel) ⟨Nat.le_of_ble_eq_true rfl, Nat.le_of_ble_eq_true rfl⟩ ⟨rfl, rfl⟩ rfl hl.1 (Nat.le_of_ble_eq_true rfl) rfl dX9_brigade_50 ⟨Nat.zero_le _, Nat.zero_le _⟩ (fun f2 H locs hP hD hS => ?_)
        have hP : va_P (dC, dI) vwCl [((g 1), .inl ((a 1), 68, .inl (fun _ => 0))), ((g 14), .inl ((a 14), 68, .inl (fun _ => 0))), ((g 0), .inr (9, oM g 0 0 0 0 0 0 (-1)))] H := hP
        have hD : va_D A [((g 1), .inl ((a 1), 68, .inl (fun _ => 0))), ((g 14), .inl ((a 14), 68, .inl (fun _ => 0))), ((g 0), .inr (9, oM g 0 0 0 0 0 0 (-1)))] := hD
        refine lv_aload_n hx hb dX9_brigade_53 rfl (lv_at hl 1 rfl) ?_
        refine c_Vi (C := RX9) (As := []) (rest := []) (wr := [((g 1), .inl ((a 1), 68, .inl (fun _ => 0))), ((g 14), .inl ((a 14), 68, .inl (fun _ => 0)))]) (n := 0) ⟨hx, hb, hml, hown, hT⟩ (k_X9_good l dC dI g a ) hK hP hD hS hA [] rfl [2] [0, 1] rfl rfl rfl rfl (by decide) rfl rfl mw_91 mw_92 mw_93 mw_19 mw_94 (by decide +kernel) ⟨Nat.le_of_ble_eq_true rfl, Nat.le_of_ble_eq_true rfl⟩ ⟨rfl, rfl⟩ rfl hl.1 (Nat.le_of_ble_eq_true rfl) rfl dX9_brigade_54 ⟨Nat.zero_le _, Nat.zero_le _⟩ (fun r f3 H locs er hP hD hS => ?_)
        have hP : va_P (dC, dI) vwCl [((g 1), .inl ((a 1), 68, .inl (fun _ => 0))), ((g 14), .inl ((a 14), 68, .inl (fun _ => 0))), ((g 0), .inr (9, oM g 0 0 0 0 0 0 (-1)))] H := hP
        have hD : va_D A [((g 1), .inl ((a 1), 68, .inl (fun _ => 0))), ((g 14), .inl ((a 14), 68, .inl (fun _ => 0))), ((g 0), .inr (9, oM g 0 0 0 0 0 0 (-1)))] := hD
        have er : r = 1 := er
        subst er
        refine lv_if_eq (tgt := 74) hx hb dX9_brigade_57 (by decide) (fun c4 => ?_) (fun c4 => ?_)
        · exact absurd c4 (by decide)
        · refine lv_aload_n hx hb dX9_brigade_60 rfl (lv_at hl 1 rfl) ?_
          refine va_get (D := (dC, dI)) (ci := 9) (v := .int 0) (C := RX9) (T := TX9) (N := 61) hx hb hT inT9 hown hK hP 2 rfl rfl 10 (by decide) (hT _ mw_86) (fun _ h9 => h9) rfl dX9_brigade_61 ?_
          refine lv_if_eq (tgt := 74) hx hb dX9_brigade_64 (by decide) (fun c5 => ?_) (fun c5 => ?_)
          · refine lv_aload_n hx hb dX9_brigade_74 rfl (lv_at hl 1 rfl) ?_
            refine c_Vi (C := RX9) (As := []) (rest := []) (wr := [((g 1), .inl ((a 1), 68, .inl (fun _ => 0))), ((g 14), .inl ((a 14), 68, .inl (fun _ => 0)))]) (n := 0) ⟨hx, hb, hml, hown, hT⟩ (k_X9_good l dC dI g a ) hK hP hD hS hA [] rfl [2] [0, 1] rfl rfl rfl rfl (by decide) rfl rfl mw_91 mw_92 mw_93 mw_19 mw_94 (by decide +kernel) ⟨Nat.le_of_ble_eq_true rfl, Nat.le_of_ble_eq_true rfl⟩ ⟨rfl, rfl⟩ rfl hl.1 (Nat.le_of_ble_eq_true rfl) rfl dX9_brigade_75 ⟨Nat.zero_le _, Nat.zero_le _⟩ (fun r f6 H locs er hP hD hS => ?_)
            have hP : va_P (dC, dI) vwCl [((g 1), .inl ((a 1), 68, .inl (fun _ => 0))), ((g 14), .inl ((a 14), 68, .inl (fun _ => 0))), ((g 0), .inr (9, oM g 0 0 0 0 0 0 (-1)))] H := hP
            have hD : va_D A [((g 1), .inl ((a 1), 68, .inl (fun _ => 0))), ((g 14), .inl ((a 14), 68, .inl (fun _ => 0))), ((g 0), .inr (9, oM g 0 0 0 0 0 0 (-1)))] := hD
            have er : r = 1 := er
            subst er
            refine lv_if_ne (tgt := 84) hx hb dX9_brigade_78 (by decide) (fun c7 => ?_) (fun c7 => ?_)
            · refine lv_iconst (v := 0) hx hb dX9_brigade_84 (by decide) ?_
              refine lv_istore_n (lv' := [(1, .int 0), (0, .ref (g 0))]) hx hb dX9_brigade_85 rfl hl (by decide) rfl (fun ls hl => ?_)
              have loop8 : ∀ (n i8 : Nat) (x8 : Int32) (H : Heap) (locs : List Loc) (ls : Array Slot), i8 ≤ 68 → 68 + 1 ≤ i8 + n → x8 = nI i8 → va_P (dC, dI) vwCl [((g 1), .inl ((a 1), 68, .inl (fun _ => 0))), ((g 14), .inl ((a 14), 68, .inl (fun _ => 0))), ((g 0), .inr (9, oM g 0 0 0 0 0 0 (-1)))] H → va_D A [((g 1), .inl ((a 1), 68, .inl (fun _ => 0))), ((g 14), .inl ((a 14), 68, .inl (fun _ => 0))), ((g 0), .inr (9, oM g 0 0 0 0 0 0 (-1)))] → va_S A s.heap H locs → lv_has ls 2 [(1, .int x8), (0, .ref (g 0))] → W p l e ({ frames := 2, cells := 0, slots := 0, locals := 42 }) s m ([.ref (g 0)] : List Value).toArray below meth c H locs 0 0 (MQ below (QI dC dI A (fun r : Int32 => r = 0) (fun f => [])) ([.ref (g 0)] : List Value).toArray s 0 0 A) (F0 m 86 ls []) := by
                intro n
                induction n with
                | zero => exact fun i x H locs ls h1 h2 => absurd h2 (by omega)
                | succ n ih8 =>
                  intro i8 x8 H locs ls hi hin ex8 hP hD hS hl
                  refine lv_iload_n hx hb dX9_brigade_86 rfl (lv_at hl 0 rfl) ?_
                  refine lv_bipush (v := 68) hx hb dX9_brigade_87 (by decide) ?_
                  refine lv_icmp_ge (tgt := 110) hx hb dX9_brigade_89 (by decide) (fun cc_ => ?_) (fun cc_ => ?_)
                  · refine lv_aload_n hx hb dX9_brigade_110 rfl (lv_at hl 1 rfl) ?_
                    refine va_get (D := (dC, dI)) (ci := 9) (v := .ref (g 1)) (C := RX9) (T := TX9) (N := 61) hx hb hT inT9 hown hK hP 2 rfl rfl 1 (by decide) (hT _ mw_95) (fun _ h9 => h9) rfl dX9_brigade_111 ?_
                    refine lv_bipush (v := 10) hx hb dX9_brigade_114 (by decide) ?_
                    refine va_iald hx hb hK hP 0 0 rfl rfl (by unfold vp_in; decide) dX9_brigade_116 ?_
                    refine t_i 0 rfl ?_
                    exact e_i hx hb hr hlocks hP hD hS (fun _ => 0) [] rfl rfl rfl dX9_brigade_117
                  · have hlt8 : i8 < 68 := by
                      rcases Nat.lt_or_ge i8 68 with q | q
                      · exact q
                      · exact absurd (by rw [ex8]; exact nI_le q (by omega)) cc_
                    refine lv_aload_n hx hb dX9_brigade_92 rfl (lv_at hl 1 rfl) ?_
                    refine va_get (D := (dC, dI)) (ci := 9) (v := .ref (g 1)) (C := RX9) (T := TX9) (N := 61) hx hb hT inT9 hown hK hP 2 rfl rfl 1 (by decide) (hT _ mw_95) (fun _ h9 => h9) rfl dX9_brigade_93 ?_
                    refine lv_iload_n hx hb dX9_brigade_96 rfl (lv_at hl 0 rfl) ?_
                    refine lv_aload_n hx hb dX9_brigade_97 rfl (lv_at hl 1 rfl) ?_
                    refine va_get (D := (dC, dI)) (ci := 9) (v := .ref (g 14)) (C := RX9) (T := TX9) (N := 61) hx hb hT inT9 hown hK hP 2 rfl rfl 14 (by decide) (hT _ mw_96) (fun _ h9 => h9) rfl dX9_brigade_98 ?_
                    refine lv_iload_n hx hb dX9_brigade_101 rfl (lv_at hl 0 rfl) ?_
                    refine va_iald hx hb hK hP 1 1 rfl rfl (by rw [ex8]; exact vp_in_nI (by omega) (by decide)) dX9_brigade_102 ?_
                    refine t_i 0 rfl ?_
                    refine va_iast hx hb hK hP hD hS 0 0 rfl rfl (by rw [ex8]; exact vp_in_nI (by omega) (by decide)) dX9_brigade_103 (fun H locs hP hD hS => ?_)
                    have hP : va_P (dC, dI) vwCl [((g 1), .inl ((a 1), 68, .inl (upd (fun _ => 0) x8.toNatClampNeg 0))), ((g 14), .inl ((a 14), 68, .inl (fun _ => 0))), ((g 0), .inr (9, oM g 0 0 0 0 0 0 (-1)))] H := hP
                    have hD : va_D A [((g 1), .inl ((a 1), 68, .inl (upd (fun _ => 0) x8.toNatClampNeg 0))), ((g 14), .inl ((a 14), 68, .inl (fun _ => 0))), ((g 0), .inr (9, oM g 0 0 0 0 0 0 (-1)))] := hD
                    rw [u_z] at hP hD
                    obtain ⟨y9, ey9⟩ : ∃ y : Int32, y = x8 + 1 := ⟨_, rfl⟩
                    refine lv_iinc (v := y9) (lv' := [(1, .int y9), (0, .ref (g 0))]) hx hb dX9_brigade_104 hl (k := 0) rfl (by rw [ey9]; rfl) (by decide) rfl (fun ls hl => ?_)
                    refine lv_goto (tgt := 86) hx hb dX9_brigade_107 (by decide) ?_
                    exact ih8 (i8 + 1) _ _ _ _ hlt8 (by omega) (by rw [ey9, ex8]; exact nI_1 i8) hP hD hS (lv_sub hl [0, 1] rfl)
              exact loop8 (68 + 1) 0 0 _ _ _ (Nat.zero_le _) (by omega) nI_0.symm hP hD hS hl
            · exact absurd c7 (by decide)
          · exact absurd c5 (by decide)
      · have hlt1 : i1 < 68 := by
          rcases Nat.lt_or_ge i1 68 with q | q
          · exact q
          · exact absurd (by rw [ex1]; exact nI_le q (by omega)) cc_
        refine lv_aload_n hx hb dX9_brigade_36 rfl (lv_at hl 1 rfl) ?_
        refine va_get (D := (dC, dI)) (ci := 9) (v := .ref (g 14)) (C := RX9) (T := TX9) (N := 61) hx hb hT inT9 hown hK hP 0 rfl rfl 14 (by decide) (hT _ mw_96) (fun _ h9 => h9) rfl dX9_brigade_37 ?_
        refine lv_iload_n hx hb dX9_brigade_40 rfl (lv_at hl 0 rfl) ?_
        refine lv_iconst (v := 0) hx hb dX9_brigade_41 (by decide) ?_
        refine va_iast hx hb hK hP hD hS 2 1 rfl rfl (by rw [ex1]; exact vp_in_nI (by omega) (by decide)) dX9_brigade_42 (fun H locs hP hD hS => ?_)
        have hP : va_P (dC, dI) vwCl [((g 0), .inr (9, oM g 0 0 0 0 0 0 (-1))), ((g 1), .inl ((a 1), 68, .inl (fun _ => 0))), ((g 14), .inl ((a 14), 68, .inl (upd (fun _ => 0) x1.toNatClampNeg 0)))] H := hP
        have hD : va_D A [((g 0), .inr (9, oM g 0 0 0 0 0 0 (-1))), ((g 1), .inl ((a 1), 68, .inl (fun _ => 0))), ((g 14), .inl ((a 14), 68, .inl (upd (fun _ => 0) x1.toNatClampNeg 0)))] := hD
        rw [u_z] at hP hD
        obtain ⟨y10, ey10⟩ : ∃ y : Int32, y = x1 + 1 := ⟨_, rfl⟩
        refine lv_iinc (v := y10) (lv' := [(1, .int y10), (0, .ref (g 0))]) hx hb dX9_brigade_43 hl (k := 0) rfl (by rw [ey10]; rfl) (by decide) rfl (fun ls hl => ?_)
        refine lv_goto (tgt := 30) hx hb dX9_brigade_46 (by decide) ?_
        exact ih1 (i1 + 1) _ _ _ _ hlt1 (by omega) (by rw [ey10, ex1]; exact nI_1 i1) hP hD hS (lv_sub hl [0, 1] rfl)
  exact loop1 (68 + 1) 0 0 _ _ _ (Nat.zero_le _) (by omega) nI_0.symm hP hD hS hl
set_option maxRecDepth 100000 in
set_option maxHeartbeats 4000000 in
theorem k_X8_fault (l : Launch) (dC : Nat → ClassId) (dI : Nat → Nat → Nat) (g : Nat → Nat) (a : Nat → ClassId) (p0 : Int32)  : MI l dC dI yX8_fault (Cond.code yX8_fault cX8_fault 2 (some .int)) ({ frames := 0, cells := 0, slots := 0, locals := 0 }) [.ref (g 0), .int p0] [] [((g 0), .inr (8, [.ref (g 1), .ref (g 2), .ref (g 4), .ref (g 16), .ref (g 64), .ref (g 65), .ref (g 66), .ref (g 70), .ref (g 75), .ref (g 87), .ref (g 94), .int 0, .int 0, .int 0])), ((g 1), .inr (4, [.ref (g 2), .int 0, .int (-1), .int 5, .int 0, .int 0, .int 0]))] (fun r : Int32 => r = s_fault p0.toInt) (fun f => []) := by
  refine m_of (Qc := fun A => QI dC dI A (fun r : Int32 => r = s_fault p0.toInt) (fun f => [])) (lv := [(0, .ref (g 0)), (1, .int p0)]) (by decide) (Nat.le_of_ble_eq_true rfl) rfl ?_
  intro p e s m below meth c A ls hx hb hr hml hT hown hlocks hname hP hK hD hS hA hl
  have hown : s.vm.findClass RX8 = some m.cls := hown
  refine lv_iload_n hx hb dX8_fault_0 rfl (lv_at hl 1 rfl) ?_
  refine lv_if_ne (tgt := 12) hx hb dX8_fault_1 (by decide) (fun c1 => ?_) (fun c1 => ?_)
  · have c1 := i_neq p0.toInt 0 rfl (by decide) c1
    refine lv_iload_n hx hb dX8_fault_12 rfl (lv_at hl 1 rfl) ?_
    refine lv_iconst (v := 1) hx hb dX8_fault_13 (by decide) ?_
    refine lv_icmp_ne (tgt := 27) hx hb dX8_fault_14 (by decide) (fun c2 => ?_) (fun c2 => ?_)
    · have c2 := i_neq p0.toInt 1 rfl (by decide) c2
      refine lv_iconst (v := (-1)) hx hb dX8_fault_27 (by decide) ?_
      exact e_i hx hb hr hlocks hP hD hS (fun _ => 0) [] rfl rfl (by unfold s_fault; (repeat' split) <;> first | rfl | omega) dX8_fault_28
    · have c2 := i_eq p0.toInt 1 rfl (by decide) c2
      refine lv_aload_n hx hb dX8_fault_17 rfl (lv_at hl 0 rfl) ?_
      refine va_get (D := (dC, dI)) (ci := 8) (v := .ref (g 1)) (C := RX8) (T := TX8) (N := 14) hx hb hT inT8 hown hK hP 0 rfl rfl 0 (by decide) (hT _ mw_21) (fun _ h9 => h9) rfl dX8_fault_18 ?_
      refine va_get (D := (dC, dI)) (ci := 4) (v := .int (-1)) (C := RX4) (T := TX4) (N := 7) hx hb hT inT4 hown hK hP 1 rfl rfl 2 (by decide) (hT _ mw_97) (fun _ h9 => h9) rfl dX8_fault_21 ?_
      refine lv_goto (tgt := 28) hx hb dX8_fault_24 (by decide) ?_
      exact e_i hx hb hr hlocks hP hD hS (fun _ => 0) [] rfl rfl (by unfold s_fault; (repeat' split) <;> first | rfl | omega) dX8_fault_28
  · have c1 := i_eq p0.toInt 0 rfl (by decide) c1
    refine lv_aload_n hx hb dX8_fault_4 rfl (lv_at hl 0 rfl) ?_
    refine va_get (D := (dC, dI)) (ci := 8) (v := .ref (g 1)) (C := RX8) (T := TX8) (N := 14) hx hb hT inT8 hown hK hP 0 rfl rfl 0 (by decide) (hT _ mw_21) (fun _ h9 => h9) rfl dX8_fault_5 ?_
    refine va_get (D := (dC, dI)) (ci := 4) (v := .int 0) (C := RX4) (T := TX4) (N := 7) hx hb hT inT4 hown hK hP 1 rfl rfl 1 (by decide) (hT _ mw_98) (fun _ h9 => h9) rfl dX8_fault_8 ?_
    exact e_i hx hb hr hlocks hP hD hS (fun _ => 0) [] rfl rfl (by unfold s_fault; (repeat' split) <;> first | rfl | omega) dX8_fault_11
set_option maxRecDepth 100000 in
set_option maxHeartbeats 4000000 in
theorem k_X9_fault (l : Launch) (dC : Nat → ClassId) (dI : Nat → Nat → Nat) (g : Nat → Nat) (a : Nat → ClassId) (p0 : Int32)  : MI l dC dI yX9_fault (Cond.code yX9_fault cX9_fault 2 (some .int)) ({ frames := 0, cells := 0, slots := 0, locals := 0 }) [.ref (g 0), .int p0] [] [((g 0), .inr (9, oM g 0 0 0 0 0 0 (-1)))] (fun r : Int32 => r = s_fault p0.toInt) (fun f => []) := by
  refine m_of (Qc := fun A => QI dC dI A (fun r : Int32 => r = s_fault p0.toInt) (fun f => [])) (lv := [(0, .ref (g 0)), (1, .int p0)]) (by decide) (Nat.le_of_ble_eq_true rfl) rfl ?_
  intro p e s m below meth c A ls hx hb hr hml hT hown hlocks hname hP hK hD hS hA hl
  have hown : s.vm.findClass RX9 = some m.cls := hown
  refine lv_iload_n hx hb dX9_fault_0 rfl (lv_at hl 1 rfl) ?_
  refine lv_if_ne (tgt := 11) hx hb dX9_fault_1 (by decide) (fun c1 => ?_) (fun c1 => ?_)
  · have c1 := i_neq p0.toInt 0 rfl (by decide) c1
    refine lv_iload_n hx hb dX9_fault_11 rfl (lv_at hl 1 rfl) ?_
    refine lv_iconst (v := 1) hx hb dX9_fault_12 (by decide) ?_
    refine lv_icmp_ne (tgt := 23) hx hb dX9_fault_13 (by decide) (fun c2 => ?_) (fun c2 => ?_)
    · have c2 := i_neq p0.toInt 1 rfl (by decide) c2
      refine lv_iconst (v := (-1)) hx hb dX9_fault_23 (by decide) ?_
      exact e_i hx hb hr hlocks hP hD hS (fun _ => 0) [] rfl rfl (by unfold s_fault; (repeat' split) <;> first | rfl | omega) dX9_fault_24
    · have c2 := i_eq p0.toInt 1 rfl (by decide) c2
      refine lv_aload_n hx hb dX9_fault_16 rfl (lv_at hl 0 rfl) ?_
      refine va_get (D := (dC, dI)) (ci := 9) (v := .int (-1)) (C := RX9) (T := TX9) (N := 61) hx hb hT inT9 hown hK hP 0 rfl rfl 13 (by decide) (hT _ mw_80) (fun _ h9 => h9) rfl dX9_fault_17 ?_
      refine lv_goto (tgt := 24) hx hb dX9_fault_20 (by decide) ?_
      exact e_i hx hb hr hlocks hP hD hS (fun _ => 0) [] rfl rfl (by unfold s_fault; (repeat' split) <;> first | rfl | omega) dX9_fault_24
  · have c1 := i_eq p0.toInt 0 rfl (by decide) c1
    refine lv_aload_n hx hb dX9_fault_4 rfl (lv_at hl 0 rfl) ?_
    refine va_get (D := (dC, dI)) (ci := 9) (v := .int 0) (C := RX9) (T := TX9) (N := 61) hx hb hT inT9 hown hK hP 0 rfl rfl 12 (by decide) (hT _ mw_79) (fun _ h9 => h9) rfl dX9_fault_5 ?_
    refine lv_goto (tgt := 24) hx hb dX9_fault_8 (by decide) ?_
    exact e_i hx hb hr hlocks hP hD hS (fun _ => 0) [] rfl rfl (by unfold s_fault; (repeat' split) <;> first | rfl | omega) dX9_fault_24
set_option maxRecDepth 100000 in
set_option maxHeartbeats 4000000 in
theorem k_X1_hasHand (l : Launch) (dC : Nat → ClassId) (dI : Nat → Nat → Nat) (g : Nat → Nat) (a : Nat → ClassId) (p0 : Int32)  : MI l dC dI yX1_hasHand (Cond.code yX1_hasHand cX1_hasHand 2 (some .boolean)) ({ frames := 0, cells := 0, slots := 0, locals := 0 }) [.ref (g 16), .int p0] [((a 17), .int)] [((g 16), .inr (1, [.ref (g 17), .ref (g 18), .ref (g 19), .ref (g 20), .ref (g 21), .ref (g 22), .ref (g 23), .ref (g 24), .ref (g 25), .ref (g 26), .ref (g 27)])), ((g 17), .inl ((a 17), 11, .inl (fun _ => 0)))] (fun r : Int32 => r = 0) (fun f => [((g 16), .inr (1, [.ref (g 17), .ref (g 18), .ref (g 19), .ref (g 20), .ref (g 21), .ref (g 22), .ref (g 23), .ref (g 24), .ref (g 25), .ref (g 26), .ref (g 27)])), ((g 17), .inl ((a 17), 11, .inl (fun _ => 0)))]) := by
  refine m_of (Qc := fun A => QI dC dI A (fun r : Int32 => r = 0) (fun f => [((g 16), .inr (1, [.ref (g 17), .ref (g 18), .ref (g 19), .ref (g 20), .ref (g 21), .ref (g 22), .ref (g 23), .ref (g 24), .ref (g 25), .ref (g 26), .ref (g 27)])), ((g 17), .inl ((a 17), 11, .inl (fun _ => 0)))])) (lv := [(0, .ref (g 16)), (1, .int p0)]) (by decide) (Nat.le_of_ble_eq_true rfl) rfl ?_
  intro p e s m below meth c A ls hx hb hr hml hT hown hlocks hname hP hK hD hS hA hl
  have hown : s.vm.findClass RX1 = some m.cls := hown
  refine lv_iload_n hx hb dX1_hasHand_0 rfl (lv_at hl 1 rfl) ?_
  refine lv_if_lt (tgt := 18) hx hb dX1_hasHand_1 (by decide) (fun c1 => ?_) (fun c1 => ?_)
  · have c1 := i_lt p0.toInt 0 rfl (by decide) c1
    refine lv_iconst (v := 0) hx hb dX1_hasHand_18 (by decide) ?_
    exact e_z hx hb hr hlocks hP hD hS (fun _ => 0) [0, 1] rfl rfl rfl rfl dX1_hasHand_19
  · have c1 := i_nlt p0.toInt 0 rfl (by decide) c1
    refine lv_iload_n hx hb dX1_hasHand_4 rfl (lv_at hl 1 rfl) ?_
    refine lv_aload_n hx hb dX1_hasHand_5 rfl (lv_at hl 0 rfl) ?_
    refine va_get (D := (dC, dI)) (ci := 1) (v := .ref (g 17)) (C := RX1) (T := TX1) (N := 11) hx hb hT inT1 hown hK hP 0 rfl rfl 0 (by decide) (hT _ mw_23) (fun _ h9 => h9) rfl dX1_hasHand_6 ?_
    refine lv_iconst (v := 5) hx hb dX1_hasHand_9 (by decide) ?_
    refine va_iald hx hb hK hP 1 0 rfl rfl (by unfold vp_in; decide) dX1_hasHand_10 ?_
    refine t_i 0 rfl ?_
    refine lv_icmp_ge (tgt := 18) hx hb dX1_hasHand_11 (by decide) (fun c2 => ?_) (fun c2 => ?_)
    · have c2 := i_le 0 p0.toInt (by decide) rfl c2
      refine lv_iconst (v := 0) hx hb dX1_hasHand_18 (by decide) ?_
      exact e_z hx hb hr hlocks hP hD hS (fun _ => 0) [0, 1] rfl rfl rfl rfl dX1_hasHand_19
    · have c2 := i_nle 0 p0.toInt (by decide) rfl c2
      omega
set_option maxRecDepth 100000 in
set_option maxHeartbeats 4000000 in
theorem k_X8_hand (l : Launch) (dC : Nat → ClassId) (dI : Nat → Nat → Nat) (g : Nat → Nat) (a : Nat → ClassId) (p0 : Int32) (p1 : Int32)  : MI l dC dI yX8_hand (Cond.code yX8_hand cX8_hand 3 (some .int)) ({ frames := 1, cells := 0, slots := 0, locals := 21 }) [.ref (g 0), .int p0, .int p1] [((a 17), .int)] [((g 0), .inr (8, [.ref (g 1), .ref (g 2), .ref (g 4), .ref (g 16), .ref (g 64), .ref (g 65), .ref (g 66), .ref (g 70), .ref (g 75), .ref (g 87), .ref (g 94), .int 0, .int 0, .int 0])), ((g 16), .inr (1, [.ref (g 17), .ref (g 18), .ref (g 19), .ref (g 20), .ref (g 21), .ref (g 22), .ref (g 23), .ref (g 24), .ref (g 25), .ref (g 26), .ref (g 27)])), ((g 17), .inl ((a 17), 11, .inl (fun _ => 0)))] (fun r : Int32 => r = (-2)) (fun f => []) := by
  refine m_of (Qc := fun A => QI dC dI A (fun r : Int32 => r = (-2)) (fun f => [])) (lv := [(0, .ref (g 0)), (1, .int p0), (2, .int p1)]) (by decide) (Nat.le_of_ble_eq_true rfl) rfl ?_
  intro p e s m below meth c A ls hx hb hr hml hT hown hlocks hname hP hK hD hS hA hl
  have hown : s.vm.findClass RX8 = some m.cls := hown
  refine lv_aload_n hx hb dX8_hand_0 rfl (lv_at hl 0 rfl) ?_
  refine va_get (D := (dC, dI)) (ci := 8) (v := .ref (g 16)) (C := RX8) (T := TX8) (N := 14) hx hb hT inT8 hown hK hP 0 rfl rfl 3 (by decide) (hT _ mw_45) (fun _ h9 => h9) rfl dX8_hand_1 ?_
  refine lv_iload_n hx hb dX8_hand_4 rfl (lv_at hl 1 rfl) ?_
  refine c_Vi (C := RX1) (As := [.int p0]) (rest := []) (wr := [((g 0), .inr (8, [.ref (g 1), .ref (g 2), .ref (g 4), .ref (g 16), .ref (g 64), .ref (g 65), .ref (g 66), .ref (g 70), .ref (g 75), .ref (g 87), .ref (g 94), .int 0, .int 0, .int 0]))]) (n := 1) ⟨hx, hb, hml, hown, hT⟩ (k_X1_hasHand l dC dI g a p0) hK hP hD hS hA [0] rfl [1, 2] [0] rfl rfl rfl rfl (by decide) rfl rfl mw_99 mw_100 mw_101 mw_27 mw_102 (by decide +kernel) ⟨Nat.le_of_ble_eq_true rfl, Nat.le_of_ble_eq_true rfl⟩ ⟨rfl, rfl⟩ rfl hl.1 (Nat.le_of_ble_eq_true rfl) rfl dX8_hand_5 ⟨Nat.zero_le _, Nat.zero_le _⟩ (fun r f1 H locs er hP hD hS => ?_)
  have hP : va_P (dC, dI) vwCl [((g 0), .inr (8, [.ref (g 1), .ref (g 2), .ref (g 4), .ref (g 16), .ref (g 64), .ref (g 65), .ref (g 66), .ref (g 70), .ref (g 75), .ref (g 87), .ref (g 94), .int 0, .int 0, .int 0])), ((g 16), .inr (1, [.ref (g 17), .ref (g 18), .ref (g 19), .ref (g 20), .ref (g 21), .ref (g 22), .ref (g 23), .ref (g 24), .ref (g 25), .ref (g 26), .ref (g 27)])), ((g 17), .inl ((a 17), 11, .inl (fun _ => 0)))] H := hP
  have hD : va_D A [((g 0), .inr (8, [.ref (g 1), .ref (g 2), .ref (g 4), .ref (g 16), .ref (g 64), .ref (g 65), .ref (g 66), .ref (g 70), .ref (g 75), .ref (g 87), .ref (g 94), .int 0, .int 0, .int 0])), ((g 16), .inr (1, [.ref (g 17), .ref (g 18), .ref (g 19), .ref (g 20), .ref (g 21), .ref (g 22), .ref (g 23), .ref (g 24), .ref (g 25), .ref (g 26), .ref (g 27)])), ((g 17), .inl ((a 17), 11, .inl (fun _ => 0)))] := hD
  have er : r = 0 := er
  subst er
  refine lv_if_eq (tgt := 18) hx hb dX8_hand_8 (by decide) (fun c2 => ?_) (fun c2 => ?_)
  · refine lv_bipush (v := (-2)) hx hb dX8_hand_18 (by decide) ?_
    exact e_i hx hb hr hlocks hP hD hS (fun _ => 0) [] rfl rfl rfl dX8_hand_20
  · exact absurd c2 (by decide)
set_option maxRecDepth 100000 in
set_option maxHeartbeats 4000000 in
theorem k_X9_hands (l : Launch) (dC : Nat → ClassId) (dI : Nat → Nat → Nat) (g : Nat → Nat) (a : Nat → ClassId)   : MI l dC dI yX9_hands (Cond.code yX9_hands cX9_hands 1 (some .int)) ({ frames := 0, cells := 0, slots := 0, locals := 0 }) [.ref (g 0)] [((a 1), .int)] [((g 0), .inr (9, oM g 0 0 0 0 0 0 (-1))), ((g 1), .inl ((a 1), 68, .inl (fun _ => 0)))] (fun r : Int32 => r = 0) (fun f => [((g 0), .inr (9, oM g 0 0 0 0 0 0 (-1))), ((g 1), .inl ((a 1), 68, .inl (fun _ => 0)))]) := by
  refine m_of (Qc := fun A => QI dC dI A (fun r : Int32 => r = 0) (fun f => [((g 0), .inr (9, oM g 0 0 0 0 0 0 (-1))), ((g 1), .inl ((a 1), 68, .inl (fun _ => 0)))])) (lv := [(0, .ref (g 0))]) (by decide) (Nat.le_of_ble_eq_true rfl) rfl ?_
  intro p e s m below meth c A ls hx hb hr hml hT hown hlocks hname hP hK hD hS hA hl
  have hown : s.vm.findClass RX9 = some m.cls := hown
  refine lv_aload_n hx hb dX9_hands_0 rfl (lv_at hl 0 rfl) ?_
  refine va_get (D := (dC, dI)) (ci := 9) (v := .ref (g 1)) (C := RX9) (T := TX9) (N := 61) hx hb hT inT9 hown hK hP 0 rfl rfl 1 (by decide) (hT _ mw_95) (fun _ h9 => h9) rfl dX9_hands_1 ?_
  refine lv_iconst (v := 5) hx hb dX9_hands_4 (by decide) ?_
  refine va_iald hx hb hK hP 1 0 rfl rfl (by unfold vp_in; decide) dX9_hands_5 ?_
  refine t_i 0 rfl ?_
  exact e_i hx hb hr hlocks hP hD hS (fun _ => 0) [0, 1] rfl rfl rfl dX9_hands_6
set_option maxRecDepth 100000 in
set_option maxHeartbeats 4000000 in
theorem k_X9_asItIs (l : Launch) (dC : Nat → ClassId) (dI : Nat → Nat → Nat) (g : Nat → Nat) (a : Nat → ClassId)   : MV l dC dI yX9_asItIs (Cond.code yX9_asItIs cX9_asItIs 6 none) ({ frames := 1, cells := 0, slots := 0, locals := 20 }) [.ref (g 0)] [((a 1), .int), ((a 15), .int), ((a 17), .int), ((a 21), .boolean), ((a 16), .boolean)] [((g 0), .inr (9, oM g 0 0 0 0 0 0 (-1))), ((g 1), .inl ((a 1), 68, .inl (fun _ => 0))), ((g 15), .inl ((a 15), 6, .inl (fun _ => 0))), ((g 17), .inl ((a 17), 6, .inl (fun _ => 0))), ((g 21), .inl ((a 21), 60, .inl (fun _ => 0))), ((g 16), .inl ((a 16), 360, .inl (fun _ => 0)))] (fun f => [((g 0), .inr (9, oM g 0 0 0 0 0 0 (-1))), ((g 1), .inl ((a 1), 68, .inl (fun _ => 0))), ((g 15), .inl ((a 15), 6, .inl (fun _ => 0))), ((g 21), .inl ((a 21), 60, .inl (fun _ => 0))), ((g 16), .inl ((a 16), 360, .inl (fun _ => 0)))]) := by
  refine m_of (Qc := fun A => QV dC dI A (fun f => [((g 0), .inr (9, oM g 0 0 0 0 0 0 (-1))), ((g 1), .inl ((a 1), 68, .inl (fun _ => 0))), ((g 15), .inl ((a 15), 6, .inl (fun _ => 0))), ((g 21), .inl ((a 21), 60, .inl (fun _ => 0))), ((g 16), .inl ((a 16), 360, .inl (fun _ => 0)))])) (lv := [(0, .ref (g 0))]) (by decide) (Nat.le_of_ble_eq_true rfl) rfl ?_
  intro p e s m below meth c A ls hx hb hr hml hT hown hlocks hname hP hK hD hS hA hl
  have hown : s.vm.findClass RX9 = some m.cls := hown
  refine lv_iconst (v := 0) hx hb dX9_asItIs_0 (by decide) ?_
  refine lv_istore_n (lv' := [(1, .int 0), (0, .ref (g 0))]) hx hb dX9_asItIs_1 rfl hl (by decide) rfl (fun ls hl => ?_)
  refine lv_iload_n hx hb dX9_asItIs_2 rfl (lv_at hl 0 rfl) ?_
  refine lv_bipush (v := 6) hx hb dX9_asItIs_3 (by decide) ?_
  refine lv_icmp_ge (tgt := 38) hx hb dX9_asItIs_5 (by decide) (fun c1 => ?_) (fun c1 => ?_)
  · exact absurd c1 (by decide)
  · refine lv_aload_n hx hb dX9_asItIs_8 rfl (lv_at hl 1 rfl) ?_
    refine va_get (D := (dC, dI)) (ci := 9) (v := .ref (g 15)) (C := RX9) (T := TX9) (N := 61) hx hb hT inT9 hown hK hP 0 rfl rfl 15 (by decide) (hT _ mw_103) (fun _ h9 => h9) rfl dX9_asItIs_9 ?_
    refine lv_iload_n hx hb dX9_asItIs_12 rfl (lv_at hl 0 rfl) ?_
    refine lv_aload_n hx hb dX9_asItIs_13 rfl (lv_at hl 1 rfl) ?_
    refine va_get (D := (dC, dI)) (ci := 9) (v := .ref (g 1)) (C := RX9) (T := TX9) (N := 61) hx hb hT inT9 hown hK hP 0 rfl rfl 1 (by decide) (hT _ mw_95) (fun _ h9 => h9) rfl dX9_asItIs_14 ?_
    refine lv_bipush (v := 11) hx hb dX9_asItIs_17 (by decide) ?_
    refine lv_iconst (v := 2) hx hb dX9_asItIs_19 (by decide) ?_
    refine lv_iload_n hx hb dX9_asItIs_20 rfl (lv_at hl 0 rfl) ?_
    refine lv_imul hx hb dX9_asItIs_21 ?_
    refine t_i 0 (by decide) ?_
    refine lv_iadd hx hb dX9_asItIs_22 ?_
    refine t_i 11 (by decide) ?_
    refine va_iald hx hb hK hP 1 0 rfl rfl (by unfold vp_in; decide) dX9_asItIs_23 ?_
    refine t_i 0 rfl ?_
    refine va_iast hx hb hK hP hD hS 2 1 rfl rfl (by unfold vp_in; decide) dX9_asItIs_24 (fun H locs hP hD hS => ?_)
    have hP : va_P (dC, dI) vwCl [((g 0), .inr (9, oM g 0 0 0 0 0 0 (-1))), ((g 1), .inl ((a 1), 68, .inl (fun _ => 0))), ((g 15), .inl ((a 15), 6, .inl (upd (fun _ => 0) (0 : Int32).toNatClampNeg 0))), ((g 17), .inl ((a 17), 6, .inl (fun _ => 0))), ((g 21), .inl ((a 21), 60, .inl (fun _ => 0))), ((g 16), .inl ((a 16), 360, .inl (fun _ => 0)))] H := hP
    have hD : va_D A [((g 0), .inr (9, oM g 0 0 0 0 0 0 (-1))), ((g 1), .inl ((a 1), 68, .inl (fun _ => 0))), ((g 15), .inl ((a 15), 6, .inl (upd (fun _ => 0) (0 : Int32).toNatClampNeg 0))), ((g 17), .inl ((a 17), 6, .inl (fun _ => 0))), ((g 21), .inl ((a 21), 60, .inl (fun _ => 0))), ((g 16), .inl ((a 16), 360, .inl (fun _ => 0)))] := hD
    rw [u_z] at hP hD
    refine lv_aload_n hx hb dX9_asItIs_25 rfl (lv_at hl 1 rfl) ?_
    refine va_get (D := (dC, dI)) (ci := 9) (v := .ref (g 17)) (C := RX9) (T := TX9) (N := 61) hx hb hT inT9 hown hK hP 0 rfl rfl 17 (by decide) (hT _ mw_104) (fun _ h9 => h9) rfl dX9_asItIs_26 ?_
    refine lv_iload_n hx hb dX9_asItIs_29 rfl (lv_at hl 0 rfl) ?_
    refine lv_iload_n hx hb dX9_asItIs_30 rfl (lv_at hl 0 rfl) ?_
    refine va_iast hx hb hK hP hD hS 3 2 rfl rfl (by unfold vp_in; decide) dX9_asItIs_31 (fun H locs hP hD hS => ?_)
    have hP : va_P (dC, dI) vwCl [((g 0), .inr (9, oM g 0 0 0 0 0 0 (-1))), ((g 1), .inl ((a 1), 68, .inl (fun _ => 0))), ((g 15), .inl ((a 15), 6, .inl (fun _ => 0))), ((g 17), .inl ((a 17), 6, .inl (upd (fun _ => 0) (0 : Int32).toNatClampNeg 0))), ((g 21), .inl ((a 21), 60, .inl (fun _ => 0))), ((g 16), .inl ((a 16), 360, .inl (fun _ => 0)))] H := hP
    have hD : va_D A [((g 0), .inr (9, oM g 0 0 0 0 0 0 (-1))), ((g 1), .inl ((a 1), 68, .inl (fun _ => 0))), ((g 15), .inl ((a 15), 6, .inl (fun _ => 0))), ((g 17), .inl ((a 17), 6, .inl (upd (fun _ => 0) (0 : Int32).toNatClampNeg 0))), ((g 21), .inl ((a 21), 60, .inl (fun _ => 0))), ((g 16), .inl ((a 16), 360, .inl (fun _ => 0)))] := hD
    rw [u_z] at hP hD
    refine lv_iinc (v := 1) (lv' := [(1, .int 1), (0, .ref (g 0))]) hx hb dX9_asItIs_32 hl (k := 0) rfl (by decide) (by decide) rfl (fun ls hl => ?_)
    refine lv_goto (tgt := 2) hx hb dX9_asItIs_35 (by decide) ?_
    refine lv_iload_n hx hb dX9_asItIs_2 rfl (lv_at hl 0 rfl) ?_
    refine lv_bipush (v := 6) hx hb dX9_asItIs_3 (by decide) ?_
    refine lv_icmp_ge (tgt := 38) hx hb dX9_asItIs_5 (by decide) (fun c2 => ?_) (fun c2 => ?_)
    · exact absurd c2 (by decide)
    · refine lv_aload_n hx hb dX9_asItIs_8 rfl (lv_at hl 1 rfl) ?_
      refine va_get (D := (dC, dI)) (ci := 9) (v := .ref (g 15)) (C := RX9) (T := TX9) (N := 61) hx hb hT inT9 hown hK hP 0 rfl rfl 15 (by decide) (hT _ mw_103) (fun _ h9 => h9) rfl dX9_asItIs_9 ?_
      refine lv_iload_n hx hb dX9_asItIs_12 rfl (lv_at hl 0 rfl) ?_
      refine lv_aload_n hx hb dX9_asItIs_13 rfl (lv_at hl 1 rfl) ?_
      refine va_get (D := (dC, dI)) (ci := 9) (v := .ref (g 1)) (C := RX9) (T := TX9) (N := 61) hx hb hT inT9 hown hK hP 0 rfl rfl 1 (by decide) (hT _ mw_95) (fun _ h9 => h9) rfl dX9_asItIs_14 ?_
      refine lv_bipush (v := 11) hx hb dX9_asItIs_17 (by decide) ?_
      refine lv_iconst (v := 2) hx hb dX9_asItIs_19 (by decide) ?_
      refine lv_iload_n hx hb dX9_asItIs_20 rfl (lv_at hl 0 rfl) ?_
      refine lv_imul hx hb dX9_asItIs_21 ?_
      refine t_i 2 (by decide) ?_
      refine lv_iadd hx hb dX9_asItIs_22 ?_
      refine t_i 13 (by decide) ?_
      refine va_iald hx hb hK hP 1 0 rfl rfl (by unfold vp_in; decide) dX9_asItIs_23 ?_
      refine t_i 0 rfl ?_
      refine va_iast hx hb hK hP hD hS 2 1 rfl rfl (by unfold vp_in; decide) dX9_asItIs_24 (fun H locs hP hD hS => ?_)
      have hP : va_P (dC, dI) vwCl [((g 0), .inr (9, oM g 0 0 0 0 0 0 (-1))), ((g 1), .inl ((a 1), 68, .inl (fun _ => 0))), ((g 15), .inl ((a 15), 6, .inl (upd (fun _ => 0) (1 : Int32).toNatClampNeg 0))), ((g 17), .inl ((a 17), 6, .inl (fun _ => 0))), ((g 21), .inl ((a 21), 60, .inl (fun _ => 0))), ((g 16), .inl ((a 16), 360, .inl (fun _ => 0)))] H := hP
      have hD : va_D A [((g 0), .inr (9, oM g 0 0 0 0 0 0 (-1))), ((g 1), .inl ((a 1), 68, .inl (fun _ => 0))), ((g 15), .inl ((a 15), 6, .inl (upd (fun _ => 0) (1 : Int32).toNatClampNeg 0))), ((g 17), .inl ((a 17), 6, .inl (fun _ => 0))), ((g 21), .inl ((a 21), 60, .inl (fun _ => 0))), ((g 16), .inl ((a 16), 360, .inl (fun _ => 0)))] := hD
      rw [u_z] at hP hD
      refine lv_aload_n hx hb dX9_asItIs_25 rfl (lv_at hl 1 rfl) ?_
      refine va_get (D := (dC, dI)) (ci := 9) (v := .ref (g 17)) (C := RX9) (T := TX9) (N := 61) hx hb hT inT9 hown hK hP 0 rfl rfl 17 (by decide) (hT _ mw_104) (fun _ h9 => h9) rfl dX9_asItIs_26 ?_
      refine lv_iload_n hx hb dX9_asItIs_29 rfl (lv_at hl 0 rfl) ?_
      refine lv_iload_n hx hb dX9_asItIs_30 rfl (lv_at hl 0 rfl) ?_
      refine va_iast hx hb hK hP hD hS 3 2 rfl rfl (by unfold vp_in; decide) dX9_asItIs_31 (fun H locs hP hD hS => ?_)
      have hP : va_P (dC, dI) vwCl [((g 0), .inr (9, oM g 0 0 0 0 0 0 (-1))), ((g 1), .inl ((a 1), 68, .inl (fun _ => 0))), ((g 15), .inl ((a 15), 6, .inl (fun _ => 0))), ((g 17), .inl ((a 17), 6, .inl (upd (fun _ => 0) (1 : Int32).toNatClampNeg 1))), ((g 21), .inl ((a 21), 60, .inl (fun _ => 0))), ((g 16), .inl ((a 16), 360, .inl (fun _ => 0)))] H := hP
      have hD : va_D A [((g 0), .inr (9, oM g 0 0 0 0 0 0 (-1))), ((g 1), .inl ((a 1), 68, .inl (fun _ => 0))), ((g 15), .inl ((a 15), 6, .inl (fun _ => 0))), ((g 17), .inl ((a 17), 6, .inl (upd (fun _ => 0) (1 : Int32).toNatClampNeg 1))), ((g 21), .inl ((a 21), 60, .inl (fun _ => 0))), ((g 16), .inl ((a 16), 360, .inl (fun _ => 0)))] := hD
      generalize (upd (fun _ => 0) (1 : Int32).toNatClampNeg 1) = f3 at hP hD
      refine lv_iinc (v := 2) (lv' := [(1, .int 2), (0, .ref (g 0))]) hx hb dX9_asItIs_32 hl (k := 0) rfl (by decide) (by decide) rfl (fun ls hl => ?_)
      refine lv_goto (tgt := 2) hx hb dX9_asItIs_35 (by decide) ?_
      refine lv_iload_n hx hb dX9_asItIs_2 rfl (lv_at hl 0 rfl) ?_
      refine lv_bipush (v := 6) hx hb dX9_asItIs_3 (by decide) ?_
      refine lv_icmp_ge (tgt := 38) hx hb dX9_asItIs_5 (by decide) (fun c4 => ?_) (fun c4 => ?_)
      · exact absurd c4 (by decide)
      · refine lv_aload_n hx hb dX9_asItIs_8 rfl (lv_at hl 1 rfl) ?_
        refine va_get (D := (dC, dI)) (ci := 9) (v := .ref (g 15)) (C := RX9) (T := TX9) (N := 61) hx hb hT inT9 hown hK hP 0 rfl rfl 15 (by decide) (hT _ mw_103) (fun _ h9 => h9) rfl dX9_asItIs_9 ?_
        refine lv_iload_n hx hb dX9_asItIs_12 rfl (lv_at hl 0 rfl) ?_
        refine lv_aload_n hx hb dX9_asItIs_13 rfl (lv_at hl 1 rfl) ?_
        refine va_get (D := (dC, dI)) (ci := 9) (v := .ref (g 1)) (C := RX9) (T := TX9) (N := 61) hx hb hT inT9 hown hK hP 0 rfl rfl 1 (by decide) (hT _ mw_95) (fun _ h9 => h9) rfl dX9_asItIs_14 ?_
        refine lv_bipush (v := 11) hx hb dX9_asItIs_17 (by decide) ?_
        refine lv_iconst (v := 2) hx hb dX9_asItIs_19 (by decide) ?_
        refine lv_iload_n hx hb dX9_asItIs_20 rfl (lv_at hl 0 rfl) ?_
        refine lv_imul hx hb dX9_asItIs_21 ?_
        refine t_i 4 (by decide) ?_
        refine lv_iadd hx hb dX9_asItIs_22 ?_
        refine t_i 15 (by decide) ?_
        refine va_iald hx hb hK hP 1 0 rfl rfl (by unfold vp_in; decide) dX9_asItIs_23 ?_
        refine t_i 0 rfl ?_
        refine va_iast hx hb hK hP hD hS 2 1 rfl rfl (by unfold vp_in; decide) dX9_asItIs_24 (fun H locs hP hD hS => ?_)
        have hP : va_P (dC, dI) vwCl [((g 0), .inr (9, oM g 0 0 0 0 0 0 (-1))), ((g 1), .inl ((a 1), 68, .inl (fun _ => 0))), ((g 15), .inl ((a 15), 6, .inl (upd (fun _ => 0) (2 : Int32).toNatClampNeg 0))), ((g 17), .inl ((a 17), 6, .inl f3)), ((g 21), .inl ((a 21), 60, .inl (fun _ => 0))), ((g 16), .inl ((a 16), 360, .inl (fun _ => 0)))] H := hP
        have hD : va_D A [((g 0), .inr (9, oM g 0 0 0 0 0 0 (-1))), ((g 1), .inl ((a 1), 68, .inl (fun _ => 0))), ((g 15), .inl ((a 15), 6, .inl (upd (fun _ => 0) (2 : Int32).toNatClampNeg 0))), ((g 17), .inl ((a 17), 6, .inl f3)), ((g 21), .inl ((a 21), 60, .inl (fun _ => 0))), ((g 16), .inl ((a 16), 360, .inl (fun _ => 0)))] := hD
        rw [u_z] at hP hD
        refine lv_aload_n hx hb dX9_asItIs_25 rfl (lv_at hl 1 rfl) ?_
        refine va_get (D := (dC, dI)) (ci := 9) (v := .ref (g 17)) (C := RX9) (T := TX9) (N := 61) hx hb hT inT9 hown hK hP 0 rfl rfl 17 (by decide) (hT _ mw_104) (fun _ h9 => h9) rfl dX9_asItIs_26 ?_
        refine lv_iload_n hx hb dX9_asItIs_29 rfl (lv_at hl 0 rfl) ?_
        refine lv_iload_n hx hb dX9_asItIs_30 rfl (lv_at hl 0 rfl) ?_
        refine va_iast hx hb hK hP hD hS 3 2 rfl rfl (by unfold vp_in; decide) dX9_asItIs_31 (fun H locs hP hD hS => ?_)
        have hP : va_P (dC, dI) vwCl [((g 0), .inr (9, oM g 0 0 0 0 0 0 (-1))), ((g 1), .inl ((a 1), 68, .inl (fun _ => 0))), ((g 15), .inl ((a 15), 6, .inl (fun _ => 0))), ((g 17), .inl ((a 17), 6, .inl (upd f3 (2 : Int32).toNatClampNeg 2))), ((g 21), .inl ((a 21), 60, .inl (fun _ => 0))), ((g 16), .inl ((a 16), 360, .inl (fun _ => 0)))] H := hP
        have hD : va_D A [((g 0), .inr (9, oM g 0 0 0 0 0 0 (-1))), ((g 1), .inl ((a 1), 68, .inl (fun _ => 0))), ((g 15), .inl ((a 15), 6, .inl (fun _ => 0))), ((g 17), .inl ((a 17), 6, .inl (upd f3 (2 : Int32).toNatClampNeg 2))), ((g 21), .inl ((a 21), 60, .inl (fun _ => 0))), ((g 16), .inl ((a 16), 360, .inl (fun _ => 0)))] := hD
        generalize (upd f3 (2 : Int32).toNatClampNeg 2) = f5 at hP hD
        refine lv_iinc (v := 3) (lv' := [(1, .int 3), (0, .ref (g 0))]) hx hb dX9_asItIs_32 hl (k := 0) rfl (by decide) (by decide) rfl (fun ls hl => ?_)
        refine lv_goto (tgt := 2) hx hb dX9_asItIs_35 (by decide) ?_
        refine lv_iload_n hx hb dX9_asItIs_2 rfl (lv_at hl 0 rfl) ?_
        refine lv_bipush (v := 6) hx hb dX9_asItIs_3 (by decide) ?_
        refine lv_icmp_ge (tgt := 38) hx hb dX9_asItIs_5 (by decide) (fun c6 => ?_) (fun c6 => ?_)
        · exact absurd c6 (by decide)
        · refine lv_aload_n hx hb dX9_asItIs_8 rfl (lv_at hl 1 rfl) ?_
          refine va_get (D := (dC, dI)) (ci := 9) (v := .ref (g 15)) (C := RX9) (T := TX9) (N := 61) hx hb hT inT9 hown hK hP 0 rfl rfl 15 (by decide) (hT _ mw_103) (fun _ h9 => h9) rfl dX9_asItIs_9 ?_
          refine lv_iload_n hx hb dX9_asItIs_12 rfl (lv_at hl 0 rfl) ?_
          refine lv_aload_n hx hb dX9_asItIs_13 rfl (lv_at hl 1 rfl) ?_
          refine va_get (D := (dC, dI)) (ci := 9) (v := .ref (g 1)) (C := RX9) (T := TX9) (N := 61) hx hb hT inT9 hown hK hP 0 rfl rfl 1 (by decide) (hT _ mw_95) (fun _ h9 => h9) rfl dX9_asItIs_14 ?_
          refine lv_bipush (v := 11) hx hb dX9_asItIs_17 (by decide) ?_
          refine lv_iconst (v := 2) hx hb dX9_asItIs_19 (by decide) ?_
          refine lv_iload_n hx hb dX9_asItIs_20 rfl (lv_at hl 0 rfl) ?_
          refine lv_imul hx hb dX9_asItIs_21 ?_
          refine t_i 6 (by decide) ?_
          refine lv_iadd hx hb dX9_asItIs_22 ?_
          refine t_i 17 (by decide) ?_
          refine va_iald hx hb hK hP 1 0 rfl rfl (by unfold vp_in; decide) dX9_asItIs_23 ?_
          refine t_i 0 rfl ?_
          refine va_iast hx hb hK hP hD hS 2 1 rfl rfl (by unfold vp_in; decide) dX9_asItIs_24 (fun H locs hP hD hS => ?_)
          have hP : va_P (dC, dI) vwCl [((g 0), .inr (9, oM g 0 0 0 0 0 0 (-1))), ((g 1), .inl ((a 1), 68, .inl (fun _ => 0))), ((g 15), .inl ((a 15), 6, .inl (upd (fun _ => 0) (3 : Int32).toNatClampNeg 0))), ((g 17), .inl ((a 17), 6, .inl f5)), ((g 21), .inl ((a 21), 60, .inl (fun _ => 0))), ((g 16), .inl ((a 16), 360, .inl (fun _ => 0)))] H := hP
          have hD : va_D A [((g 0), .inr (9, oM g 0 0 0 0 0 0 (-1))), ((g 1), .inl ((a 1), 68, .inl (fun _ => 0))), ((g 15), .inl ((a 15), 6, .inl (upd (fun _ => 0) (3 : Int32).toNatClampNeg 0))), ((g 17), .inl ((a 17), 6, .inl f5)), ((g 21), .inl ((a 21), 60, .inl (fun _ => 0))), ((g 16), .inl ((a 16), 360, .inl (fun _ => 0)))] := hD
          rw [u_z] at hP hD
          refine lv_aload_n hx hb dX9_asItIs_25 rfl (lv_at hl 1 rfl) ?_
          refine va_get (D := (dC, dI)) (ci := 9) (v := .ref (g 17)) (C := RX9) (T := TX9) (N := 61) hx hb hT inT9 hown hK hP 0 rfl rfl 17 (by decide) (hT _ mw_104) (fun _ h9 => h9) rfl dX9_asItIs_26 ?_
          refine lv_iload_n hx hb dX9_asItIs_29 rfl (lv_at hl 0 rfl) ?_
          refine lv_iload_n hx hb dX9_asItIs_30 rfl (lv_at hl 0 rfl) ?_
          refine va_iast hx hb hK hP hD hS 3 2 rfl rfl (by unfold vp_in; decide) dX9_asItIs_31 (fun H locs hP hD hS => ?_)
          have hP : va_P (dC, dI) vwCl [((g 0), .inr (9, oM g 0 0 0 0 0 0 (-1))), ((g 1), .inl ((a 1), 68, .inl (fun _ => 0))), ((g 15), .inl ((a 15), 6, .inl (fun _ => 0))), ((g 17), .inl ((a 17), 6, .inl (upd f5 (3 : Int32).toNatClampNeg 3))), ((g 21), .inl ((a 21), 60, .inl (fun _ => 0))), ((g 16), .inl ((a 16), 360, .inl (fun _ => 0)))] H := hP
          have hD : va_D A [((g 0), .inr (9, oM g 0 0 0 0 0 0 (-1))), ((g 1), .inl ((a 1), 68, .inl (fun _ => 0))), ((g 15), .inl ((a 15), 6, .inl (fun _ => 0))), ((g 17), .inl ((a 17), 6, .inl (upd f5 (3 : Int32).toNatClampNeg 3))), ((g 21), .inl ((a 21), 60, .inl (fun _ => 0))), ((g 16), .inl ((a 16), 360, .inl (fun _ => 0)))] := hD
          generalize (upd f5 (3 : Int32).toNatClampNeg 3) = f7 at hP hD
          refine lv_iinc (v := 4) (lv' := [(1, .int 4), (0, .ref (g 0))]) hx hb dX9_asItIs_32 hl (k := 0) rfl (by decide) (by decide) rfl (fun ls hl => ?_)
          refine lv_goto (tgt := 2) hx hb dX9_asItIs_35 (by decide) ?_
          refine lv_iload_n hx hb dX9_asItIs_2 rfl (lv_at hl 0 rfl) ?_
          refine lv_bipush (v := 6) hx hb dX9_asItIs_3 (by decide) ?_
          refine lv_icmp_ge (tgt := 38) hx hb dX9_asItIs_5 (by decide) (fun c8 => ?_) (fun c8 => ?_)
          · exact absurd c8 (by decide)
          · refine lv_aload_n hx hb dX9_asItIs_8 rfl (lv_at hl 1 rfl) ?_
            refine va_get (D := (dC, dI)) (ci := 9) (v := .ref (g 15)) (C := RX9) (T := TX9) (N := 61) hx hb hT inT9 hown hK hP 0 rfl rfl 15 (by decide) (hT _ mw_103) (fun _ h9 => h9) rfl dX9_asItIs_9 ?_
            refine lv_iload_n hx hb dX9_asItIs_12 rfl (lv_at hl 0 rfl) ?_
            refine lv_aload_n hx hb dX9_asItIs_13 rfl (lv_at hl 1 rfl) ?_
            refine va_get (D := (dC, dI)) (ci := 9) (v := .ref (g 1)) (C := RX9) (T := TX9) (N := 61) hx hb hT inT9 hown hK hP 0 rfl rfl 1 (by decide) (hT _ mw_95) (fun _ h9 => h9) rfl dX9_asItIs_14 ?_
            refine lv_bipush (v := 11) hx hb dX9_asItIs_17 (by decide) ?_
            refine lv_iconst (v := 2) hx hb dX9_asItIs_19 (by decide) ?_
            refine lv_iload_n hx hb dX9_asItIs_20 rfl (lv_at hl 0 rfl) ?_
            refine lv_imul hx hb dX9_asItIs_21 ?_
            refine t_i 8 (by decide) ?_
            refine lv_iadd hx hb dX9_asItIs_22 ?_
            refine t_i 19 (by decide) ?_
            refine va_iald hx hb hK hP 1 0 rfl rfl (by unfold vp_in; decide) dX9_asItIs_23 ?_
            refine t_i 0 rfl ?_
            refine va_iast hx hb hK hP hD hS 2 1 rfl rfl (by unfold vp_in; decide) dX9_asItIs_24 (fun H locs hP hD hS => ?_)
            have hP : va_P (dC, dI) vwCl [((g 0), .inr (9, oM g 0 0 0 0 0 0 (-1))), ((g 1), .inl ((a 1), 68, .inl (fun _ => 0))), ((g 15), .inl ((a 15), 6, .inl (upd (fun _ => 0) (4 : Int32).toNatClampNeg 0))), ((g 17), .inl ((a 17), 6, .inl f7)), ((g 21), .inl ((a 21), 60, .inl (fun _ => 0))), ((g 16), .inl ((a 16), 360, .inl (fun _ => 0)))] H := hP
            have hD : va_D A [((g 0), .inr (9, oM g 0 0 0 0 0 0 (-1))), ((g 1), .inl ((a 1), 68, .inl (fun _ => 0))), ((g 15), .inl ((a 15), 6, .inl (upd (fun _ => 0) (4 : Int32).toNatClampNeg 0))), ((g 17), .inl ((a 17), 6, .inl f7)), ((g 21), .inl ((a 21), 60, .inl (fun _ => 0))), ((g 16), .inl ((a 16), 360, .inl (fun _ => 0)))] := hD
            rw [u_z] at hP hD
            refine lv_aload_n hx hb dX9_asItIs_25 rfl (lv_at hl 1 rfl) ?_
            refine va_get (D := (dC, dI)) (ci := 9) (v := .ref (g 17)) (C := RX9) (T := TX9) (N := 61) hx hb hT inT9 hown hK hP 0 rfl rfl 17 (by decide) (hT _ mw_104) (fun _ h9 => h9) rfl dX9_asItIs_26 ?_
            refine lv_iload_n hx hb dX9_asItIs_29 rfl (lv_at hl 0 rfl) ?_
            refine lv_iload_n hx hb dX9_asItIs_30 rfl (lv_at hl 0 rfl) ?_
            refine va_iast hx hb hK hP hD hS 3 2 rfl rfl (by unfold vp_in; decide) dX9_asItIs_31 (fun H locs hP hD hS => ?_)
            have hP : va_P (dC, dI) vwCl [((g 0), .inr (9, oM g 0 0 0 0 0 0 (-1))), ((g 1), .inl ((a 1), 68, .inl (fun _ => 0))), ((g 15), .inl ((a 15), 6, .inl (fun _ => 0))), ((g 17), .inl ((a 17), 6, .inl (upd f7 (4 : Int32).toNatClampNeg 4))), ((g 21), .inl ((a 21), 60, .inl (fun _ => 0))), ((g 16), .inl ((a 16), 360, .inl (fun _ => 0)))] H := hP
            have hD : va_D A [((g 0), .inr (9, oM g 0 0 0 0 0 0 (-1))), ((g 1), .inl ((a 1), 68, .inl (fun _ => 0))), ((g 15), .inl ((a 15), 6, .inl (fun _ => 0))), ((g 17), .inl ((a 17), 6, .inl (upd f7 (4 : Int32).toNatClampNeg 4))), ((g 21), .inl ((a 21), 60, .inl (fun _ => 0))), ((g 16), .inl ((a 16), 360, .inl (fun _ => 0)))] := hD
            generalize (upd f7 (4 : Int32).toNatClampNeg 4) = f9 at hP hD
            refine lv_iinc (v := 5) (lv' := [(1, .int 5), (0, .ref (g 0))]) hx hb dX9_asItIs_32 hl (k := 0) rfl (by decide) (by decide) rfl (fun ls hl => ?_)
            refine lv_goto (tgt := 2) hx hb dX9_asItIs_35 (by decide) ?_
            refine lv_iload_n hx hb dX9_asItIs_2 rfl (lv_at hl 0 rfl) ?_
            refine lv_bipush (v := 6) hx hb dX9_asItIs_3 (by decide) ?_
            refine lv_icmp_ge (tgt := 38) hx hb dX9_asItIs_5 (by decide) (fun c10 => ?_) (fun c10 => ?_)
            · exact absurd c10 (by decide)
            · refine lv_aload_n hx hb dX9_asItIs_8 rfl (lv_at hl 1 rfl) ?_
              refine va_get (D := (dC, dI)) (ci := 9) (v := .ref (g 15)) (C := RX9) (T := TX9) (N := 61) hx hb hT inT9 hown hK hP 0 rfl rfl 15 (by decide) (hT _ mw_103) (fun _ h9 => h9) rfl dX9_asItIs_9 ?_
              refine lv_iload_n hx hb dX9_asItIs_12 rfl (lv_at hl 0 rfl) ?_
              refine lv_aload_n hx hb dX9_asItIs_13 rfl (lv_at hl 1 rfl) ?_
              refine va_get (D := (dC, dI)) (ci := 9) (v := .ref (g 1)) (C := RX9) (T := TX9) (N := 61) hx hb hT inT9 hown hK hP 0 rfl rfl 1 (by decide) (hT _ mw_95) (fun _ h9 => h9) rfl dX9_asItIs_14 ?_
              refine lv_bipush (v := 11) hx hb dX9_asItIs_17 (by decide) ?_
              refine lv_iconst (v := 2) hx hb dX9_asItIs_19 (by decide) ?_
              refine lv_iload_n hx hb dX9_asItIs_20 rfl (lv_at hl 0 rfl) ?_
              refine lv_imul hx hb dX9_asItIs_21 ?_
              refine t_i 10 (by decide) ?_
              refine lv_iadd hx hb dX9_asItIs_22 ?_
              refine t_i 21 (by decide) ?_
              refine va_iald hx hb hK hP 1 0 rfl rfl (by unfold vp_in; decide) dX9_asItIs_23 ?_
              refine t_i 0 rfl ?_
              refine va_iast hx hb hK hP hD hS 2 1 rfl rfl (by unfold vp_in; decide) dX9_asItIs_24 (fun H locs hP hD hS => ?_)
              have hP : va_P (dC, dI) vwCl [((g 0), .inr (9, oM g 0 0 0 0 0 0 (-1))), ((g 1), .inl ((a 1), 68, .inl (fun _ => 0))), ((g 15), .inl ((a 15), 6, .inl (upd (fun _ => 0) (5 : Int32).toNatClampNeg 0))), ((g 17), .inl ((a 17), 6, .inl f9)), ((g 21), .inl ((a 21), 60, .inl (fun _ => 0))), ((g 16), .inl ((a 16), 360, .inl (fun _ => 0)))] H := hP
              have hD : va_D A [((g 0), .inr (9, oM g 0 0 0 0 0 0 (-1))), ((g 1), .inl ((a 1), 68, .inl (fun _ => 0))), ((g 15), .inl ((a 15), 6, .inl (upd (fun _ => 0) (5 : Int32).toNatClampNeg 0))), ((g 17), .inl ((a 17), 6, .inl f9)), ((g 21), .inl ((a 21), 60, .inl (fun _ => 0))), ((g 16), .inl ((a 16), 360, .inl (fun _ => 0)))] := hD
              rw [u_z] at hP hD
              refine lv_aload_n hx hb dX9_asItIs_25 rfl (lv_at hl 1 rfl) ?_
              refine va_get (D := (dC, dI)) (ci := 9) (v := .ref (g 17)) (C := RX9) (T := TX9) (N := 61) hx hb hT inT9 hown hK hP 0 rfl rfl 17 (by decide) (hT _ mw_104) (fun _ h9 => h9) rfl dX9_asItIs_26 ?_
              refine lv_iload_n hx hb dX9_asItIs_29 rfl (lv_at hl 0 rfl) ?_
              refine lv_iload_n hx hb dX9_asItIs_30 rfl (lv_at hl 0 rfl) ?_
              refine va_iast hx hb hK hP hD hS 3 2 rfl rfl (by unfold vp_in; decide) dX9_asItIs_31 (fun H locs hP hD hS => ?_)
              have hP : va_P (dC, dI) vwCl [((g 0), .inr (9, oM g 0 0 0 0 0 0 (-1))), ((g 1), .inl ((a 1), 68, .inl (fun _ => 0))), ((g 15), .inl ((a 15), 6, .inl (fun _ => 0))), ((g 17), .inl ((a 17), 6, .inl (upd f9 (5 : Int32).toNatClampNeg 5))), ((g 21), .inl ((a 21), 60, .inl (fun _ => 0))), ((g 16), .inl ((a 16), 360, .inl (fun _ => 0)))] H := hP
              have hD : va_D A [((g 0), .inr (9, oM g 0 0 0 0 0 0 (-1))), ((g 1), .inl ((a 1), 68, .inl (fun _ => 0))), ((g 15), .inl ((a 15), 6, .inl (fun _ => 0))), ((g 17), .inl ((a 17), 6, .inl (upd f9 (5 : Int32).toNatClampNeg 5))), ((g 21), .inl ((a 21), 60, .inl (fun _ => 0))), ((g 16), .inl ((a 16), 360, .inl (fun _ => 0)))] := hD
              generalize (upd f9 (5 : Int32).toNatClampNeg 5) = f11 at hP hD
              refine lv_iinc (v := 6) (lv' := [(1, .int 6), (0, .ref (g 0))]) hx hb dX9_asItIs_32 hl (k := 0) rfl (by decide) (by decide) rfl (fun ls hl => ?_)
              refine lv_goto (tgt := 2) hx hb dX9_asItIs_35 (by decide) ?_
              refine lv_iload_n hx hb dX9_asItIs_2 rfl (lv_at hl 0 rfl) ?_
              refine lv_bipush (v := 6) hx hb dX9_asItIs_3 (by decide) ?_
              refine lv_icmp_ge (tgt := 38) hx hb dX9_asItIs_5 (by decide) (fun c12 => ?_) (fun c12 => ?_)
              · refine lv_iconst (v := 0) hx hb dX9_asItIs_38 (by decide) ?_
                refine lv_istore_n (lv' := [(1, .int 0), (0, .ref (g 0))]) hx hb dX9_asItIs_39 rfl hl (by decide) rfl (fun ls hl => ?_)
                have loop13 : ∀ (n i13 : Nat) (x13 : Int32) (H : Heap) (locs : List Loc) (ls : Array Slot), i13 ≤ 360 → 360 + 1 ≤ i13 + n → x13 = nI i13 → va_P (dC, dI) vwCl [((g 0), .inr (9, oM g 0 0 0 0 0 0 (-1))), ((g 1), .inl ((a 1), 68, .inl (fun _ => 0))), ((g 15), .inl ((a 15), 6, .inl (fun _ => 0))), ((g 17), .inl ((a 17), 6, .inl f11)), ((g 21), .inl ((a 21), 60, .inl (fun _ => 0))), ((g 16), .inl ((a 16), 360, .inl (fun _ => 0)))] H → va_D A [((g 0), .inr (9, oM g 0 0 0 0 0 0 (-1))), ((g 1), .inl ((a 1), 68, .inl (fun _ => 0))), ((g 15), .inl ((a 15), 6, .inl (fun _ => 0))), ((g 17), .inl ((a 17), 6, .inl f11)), ((g 21), .inl ((a 21), 60, .inl (fun _ => 0))), ((g 16), .inl ((a 16), 360, .inl (fun _ => 0)))] → va_S A s.heap H locs → lv_has ls 6 [(1, .int x13), (0, .ref (g 0))] → W p l e ({ frames := 1, cells := 0, slots := 0, locals := 20 }) s m ([.ref (g 0)] : List Value).toArray below meth c H locs 0 0 (MQ below (QV dC dI A (fun f => [((g 0), .inr (9, oM g 0 0 0 0 0 0 (-1))), ((g 1), .inl ((a 1), 68, .inl (fun _ => 0))), ((g 15), .inl ((a 15), 6, .inl (fun _ => 0))), ((g 21), .inl ((a 21), 60, .inl (fun _ => 0))), ((g 16), .inl ((a 16), 360, .inl (fun _ => 0)))])) ([.ref (g 0)] : List Value).toArray s 0 0 A) (F0 m 40 ls []) := by
                  intro n
                  induction n with
                  | zero => exact fun i x H locs ls h1 h2 => absurd h2 (by omega)
                  | succ n ih13 =>
                    intro i13 x13 H locs ls hi hin ex13 hP hD hS hl
                    refine lv_iload_n hx hb dX9_asItIs_40 rfl (lv_at hl 0 rfl) ?_
                    refine lv_sipush (v := 360) hx hb dX9_asItIs_41 (by decide) ?_
                    refine lv_icmp_ge (tgt := 60) hx hb dX9_asItIs_44 (by decide) (fun cc_ => ?_) (fun cc_ => ?_)
                    · refine lv_iconst (v := 0) hx hb dX9_asItIs_60 (by decide) ?_
                      refine lv_istore_n (lv' := [(1, .int 0), (0, .ref (g 0))]) hx hb dX9_asItIs_61 rfl hl (by decide) rfl (fun ls hl => ?_)
                      have loop14 : ∀ (n i14 : Nat) (x14 : Int32) (H : Heap) (locs : List Loc) (ls : Array Slot), i14 ≤ 60 → 60 + 1 ≤ i14 + n → x14 = nI i14 → va_P (dC, dI) vwCl [((g 0), .inr (9, oM g 0 0 0 0 0 0 (-1))), ((g 1), .inl ((a 1), 68, .inl (fun _ => 0))), ((g 15), .inl ((a 15), 6, .inl (fun _ => 0))), ((g 17), .inl ((a 17), 6, .inl f11)), ((g 21), .inl ((a 21), 60, .inl (fun _ => 0))), ((g 16), .inl ((a 16), 360, .inl (fun _ => 0)))] H → va_D A [((g 0), .inr (9, oM g 0 0 0 0 0 0 (-1))), ((g 1), .inl ((a 1), 68, .inl (fun _ => 0))), ((g 15), .inl ((a 15), 6, .inl (fun _ => 0))), ((g 17), .inl ((a 17), 6, .inl f11)), ((g 21), .inl ((a 21), 60, .inl (fun _ => 0))), ((g 16), .inl ((a 16), 360, .inl (fun _ => 0)))] → va_S A s.heap H locs → lv_has ls 6 [(1, .int x14), (0, .ref (g 0))] → W p l e ({ frames := 1, cells := 0, slots := 0, locals := 20 }) s m ([.ref (g 0)] : List Value).toArray below meth c H locs 0 0 (MQ below (QV dC dI A (fun f => [((g 0), .inr (9, oM g 0 0 0 0 0 0 (-1))), ((g 1), .inl ((a 1), 68, .inl (fun _ => 0))), ((g 15), .inl ((a 15), 6, .inl (fun _ => 0))), ((g 21), .inl ((a 21), 60, .inl (fun _ => 0))), ((g 16), .inl ((a 16), 360, .inl (fun _ => 0)))])) ([.ref (g 0)] : List Value).toArray s 0 0 A) (F0 m 62 ls []) := by
                        intro n
                        induction n with
                        | zero => exact fun i x H locs ls h1 h2 => absurd h2 (by omega)
                        | succ n ih14 =>
                          intro i14 x14 H locs ls hi hin ex14 hP hD hS hl
                          refine lv_iload_n hx hb dX9_asItIs_62 rfl (lv_at hl 0 rfl) ?_
                          refine lv_bipush (v := 60) hx hb dX9_asItIs_63 (by decide) ?_
                          refine lv_icmp_ge (tgt := 81) hx hb dX9_asItIs_65 (by decide) (fun cc_ => ?_) (fun cc_ => ?_)
                          · refine lv_aload_n hx hb dX9_asItIs_81 rfl (lv_at hl 1 rfl) ?_
                            refine lv_aload_n hx hb dX9_asItIs_82 rfl (lv_at hl 1 rfl) ?_
                            refine c_Vi (C := RX9) (As := []) (rest := [.ref (g 0)]) (wr := [((g 15), .inl ((a 15), 6, .inl (fun _ => 0))), ((g 17), .inl ((a 17), 6, .inl f11)), ((g 21), .inl ((a 21), 60, .inl (fun _ => 0))), ((g 16), .inl ((a 16), 360, .inl (fun _ => 0)))]) (n := 0) ⟨hx, hb, hml, hown, hT⟩ (k_X9_hands l dC dI g a ) hK hP hD hS hA [0] rfl [0, 1] [2, 3, 4, 5] rfl rfl rfl rfl (by decide) rfl rfl mw_105 mw_106 mw_107 mw_19 mw_108 (by decide +kernel) ⟨Nat.le_of_ble_eq_true rfl, Nat.le_of_ble_eq_true rfl⟩ ⟨rfl, rfl⟩ rfl hl.1 (Nat.le_of_ble_eq_true rfl) rfl dX9_asItIs_83 ⟨Nat.zero_le _, Nat.zero_le _⟩ (fun r f15 H locs er hP hD hS => ?_)
                            have hP : va_P (dC, dI) vwCl [((g 15), .inl ((a 15), 6, .inl (fun _ => 0))), ((g 17), .inl ((a 17), 6, .inl f11)), ((g 21), .inl ((a 21), 60, .inl (fun _ => 0))), ((g 16), .inl ((a 16), 360, .inl (fun _ => 0))), ((g 0), .inr (9, oM g 0 0 0 0 0 0 (-1))), ((g 1), .inl ((a 1), 68, .inl (fun _ => 0)))] H := hP
                            have hD : va_D A [((g 15), .inl ((a 15), 6, .inl (fun _ => 0))), ((g 17), .inl ((a 17), 6, .inl f11)), ((g 21), .inl ((a 21), 60, .inl (fun _ => 0))), ((g 16), .inl ((a 16), 360, .inl (fun _ => 0))), ((g 0), .inr (9, oM g 0 0 0 0 0 0 (-1))), ((g 1), .inl ((a 1), 68, .inl (fun _ => 0)))] := hD
                            have er : r = 0 := er
                            subst er
                            refine va_put (D := (dC, dI)) (ci := 9) (v := .int 0) (ty := .int) (C := RX9) (T := TX9) (N := 61) hx hb hT inT9 tyX9 tyX9_ok nmX9 hown hK hP hD hS 4 rfl rfl 18 (by decide) (hT _ mw_109) (fun _ h9 => h9) rfl (by decide +kernel) rfl rfl (Nat.le_of_ble_eq_true rfl) dX9_asItIs_86 (fun H locs hP hD hS => ?_)
                            have hP : va_P (dC, dI) vwCl [((g 15), .inl ((a 15), 6, .inl (fun _ => 0))), ((g 17), .inl ((a 17), 6, .inl f11)), ((g 21), .inl ((a 21), 60, .inl (fun _ => 0))), ((g 16), .inl ((a 16), 360, .inl (fun _ => 0))), ((g 0), .inr (9, oM g 0 0 0 0 0 0 (-1))), ((g 1), .inl ((a 1), 68, .inl (fun _ => 0)))] H := hP
                            have hD : va_D A [((g 15), .inl ((a 15), 6, .inl (fun _ => 0))), ((g 17), .inl ((a 17), 6, .inl f11)), ((g 21), .inl ((a 21), 60, .inl (fun _ => 0))), ((g 16), .inl ((a 16), 360, .inl (fun _ => 0))), ((g 0), .inr (9, oM g 0 0 0 0 0 0 (-1))), ((g 1), .inl ((a 1), 68, .inl (fun _ => 0)))] := hD
                            refine lv_aload_n hx hb dX9_asItIs_89 rfl (lv_at hl 1 rfl) ?_
                            refine lv_aload_n hx hb dX9_asItIs_90 rfl (lv_at hl 1 rfl) ?_
                            refine va_get (D := (dC, dI)) (ci := 9) (v := .ref (g 1)) (C := RX9) (T := TX9) (N := 61) hx hb hT inT9 hown hK hP 4 rfl rfl 1 (by decide) (hT _ mw_95) (fun _ h9 => h9) rfl dX9_asItIs_91 ?_
                            refine lv_iconst (v := 1) hx hb dX9_asItIs_94 (by decide) ?_
                            refine va_iald hx hb hK hP 5 0 rfl rfl (by unfold vp_in; decide) dX9_asItIs_95 ?_
                            refine t_i 0 rfl ?_
                            refine va_put (D := (dC, dI)) (ci := 9) (v := .int 0) (ty := .int) (C := RX9) (T := TX9) (N := 61) hx hb hT inT9 tyX9 tyX9_ok nmX9 hown hK hP hD hS 4 rfl rfl 19 (by decide) (hT _ mw_110) (fun _ h9 => h9) rfl (by decide +kernel) rfl rfl (Nat.le_of_ble_eq_true rfl) dX9_asItIs_96 (fun H locs hP hD hS => ?_)
                            have hP : va_P (dC, dI) vwCl [((g 15), .inl ((a 15), 6, .inl (fun _ => 0))), ((g 17), .inl ((a 17), 6, .inl f11)), ((g 21), .inl ((a 21), 60, .inl (fun _ => 0))), ((g 16), .inl ((a 16), 360, .inl (fun _ => 0))), ((g 0), .inr (9, oM g 0 0 0 0 0 0 (-1))), ((g 1), .inl ((a 1), 68, .inl (fun _ => 0)))] H := hP
                            have hD : va_D A [((g 15), .inl ((a 15), 6, .inl (fun _ => 0))), ((g 17), .inl ((a 17), 6, .inl f11)), ((g 21), .inl ((a 21), 60, .inl (fun _ => 0))), ((g 16), .inl ((a 16), 360, .inl (fun _ => 0))), ((g 0), .inr (9, oM g 0 0 0 0 0 0 (-1))), ((g 1), .inl ((a 1), 68, .inl (fun _ => 0)))] := hD
                            refine lv_aload_n hx hb dX9_asItIs_99 rfl (lv_at hl 1 rfl) ?_
                            refine lv_aload_n hx hb dX9_asItIs_100 rfl (lv_at hl 1 rfl) ?_
                            refine va_get (D := (dC, dI)) (ci := 9) (v := .ref (g 1)) (C := RX9) (T := TX9) (N := 61) hx hb hT inT9 hown hK hP 4 rfl rfl 1 (by decide) (hT _ mw_95) (fun _ h9 => h9) rfl dX9_asItIs_101 ?_
                            refine lv_iconst (v := 2) hx hb dX9_asItIs_104 (by decide) ?_
                            refine va_iald hx hb hK hP 5 0 rfl rfl (by unfold vp_in; decide) dX9_asItIs_105 ?_
                            refine t_i 0 rfl ?_
                            refine va_put (D := (dC, dI)) (ci := 9) (v := .int 0) (ty := .int) (C := RX9) (T := TX9) (N := 61) hx hb hT inT9 tyX9 tyX9_ok nmX9 hown hK hP hD hS 4 rfl rfl 20 (by decide) (hT _ mw_111) (fun _ h9 => h9) rfl (by decide +kernel) rfl rfl (Nat.le_of_ble_eq_true rfl) dX9_asItIs_106 (fun H locs hP hD hS => ?_)
                            have hP : va_P (dC, dI) vwCl [((g 15), .inl ((a 15), 6, .inl (fun _ => 0))), ((g 17), .inl ((a 17), 6, .inl f11)), ((g 21), .inl ((a 21), 60, .inl (fun _ => 0))), ((g 16), .inl ((a 16), 360, .inl (fun _ => 0))), ((g 0), .inr (9, oM g 0 0 0 0 0 0 (-1))), ((g 1), .inl ((a 1), 68, .inl (fun _ => 0)))] H := hP
                            have hD : va_D A [((g 15), .inl ((a 15), 6, .inl (fun _ => 0))), ((g 17), .inl ((a 17), 6, .inl f11)), ((g 21), .inl ((a 21), 60, .inl (fun _ => 0))), ((g 16), .inl ((a 16), 360, .inl (fun _ => 0))), ((g 0), .inr (9, oM g 0 0 0 0 0 0 (-1))), ((g 1), .inl ((a 1), 68, .inl (fun _ => 0)))] := hD
                            refine lv_iconst (v := 0) hx hb dX9_asItIs_109 (by decide) ?_
                            refine lv_istore_n (lv' := [(1, .int 0), (0, .ref (g 0))]) hx hb dX9_asItIs_110 rfl hl (by decide) rfl (fun ls hl => ?_)
                            refine lv_iload_n hx hb dX9_asItIs_111 rfl (lv_at hl 0 rfl) ?_
                            refine lv_aload_n hx hb dX9_asItIs_112 rfl (lv_at hl 1 rfl) ?_
                            refine va_get (D := (dC, dI)) (ci := 9) (v := .ref (g 1)) (C := RX9) (T := TX9) (N := 61) hx hb hT inT9 hown hK hP 4 rfl rfl 1 (by decide) (hT _ mw_95) (fun _ h9 => h9) rfl dX9_asItIs_113 ?_
                            refine lv_bipush (v := 9) hx hb dX9_asItIs_116 (by decide) ?_
                            refine va_iald hx hb hK hP 5 0 rfl rfl (by unfold vp_in; decide) dX9_asItIs_118 ?_
                            refine t_i 0 rfl ?_
                            refine lv_icmp_ge (tgt := 222) hx hb dX9_asItIs_119 (by decide) (fun c16 => ?_) (fun c16 => ?_)
                            · exact e_v hx hb hr hlocks hP hD hS (fun _ => 0) [4, 5, 0, 2, 3] rfl rfl dX9_asItIs_222
                            · exact absurd c16 (by decide)
                          · have hlt14 : i14 < 60 := by
                              rcases Nat.lt_or_ge i14 60 with q | q
                              · exact q
                              · exact absurd (by rw [ex14]; exact nI_le q (by omega)) cc_
                            refine lv_aload_n hx hb dX9_asItIs_68 rfl (lv_at hl 1 rfl) ?_
                            refine va_get (D := (dC, dI)) (ci := 9) (v := .ref (g 21)) (C := RX9) (T := TX9) (N := 61) hx hb hT inT9 hown hK hP 0 rfl rfl 21 (by decide) (hT _ mw_112) (fun _ h9 => h9) rfl dX9_asItIs_69 ?_
                            refine lv_iload_n hx hb dX9_asItIs_72 rfl (lv_at hl 0 rfl) ?_
                            refine lv_iconst (v := 0) hx hb dX9_asItIs_73 (by decide) ?_
                            refine va_zast hx hb hK hP hD hS 4 3 rfl rfl (by rw [ex14]; exact vp_in_nI (by omega) (by decide)) dX9_asItIs_74 (fun H locs hP hD hS => ?_)
                            have hP : va_P (dC, dI) vwCl [((g 0), .inr (9, oM g 0 0 0 0 0 0 (-1))), ((g 1), .inl ((a 1), 68, .inl (fun _ => 0))), ((g 15), .inl ((a 15), 6, .inl (fun _ => 0))), ((g 17), .inl ((a 17), 6, .inl f11)), ((g 21), .inl ((a 21), 60, .inl (upd (fun _ => 0) x14.toNatClampNeg (vp_nar .boolean 0)))), ((g 16), .inl ((a 16), 360, .inl (fun _ => 0)))] H := hP
                            have hD : va_D A [((g 0), .inr (9, oM g 0 0 0 0 0 0 (-1))), ((g 1), .inl ((a 1), 68, .inl (fun _ => 0))), ((g 15), .inl ((a 15), 6, .inl (fun _ => 0))), ((g 17), .inl ((a 17), 6, .inl f11)), ((g 21), .inl ((a 21), 60, .inl (upd (fun _ => 0) x14.toNatClampNeg (vp_nar .boolean 0)))), ((g 16), .inl ((a 16), 360, .inl (fun _ => 0)))] := hD
                            rw [u_zn _ .boolean rfl] at hP hD
                            obtain ⟨y17, ey17⟩ : ∃ y : Int32, y = x14 + 1 := ⟨_, rfl⟩
                            refine lv_iinc (v := y17) (lv' := [(1, .int y17), (0, .ref (g 0))]) hx hb dX9_asItIs_75 hl (k := 0) rfl (by rw [ey17]; rfl) (by decide) rfl (fun ls hl => ?_)
                            refine lv_goto (tgt := 62) hx hb dX9_asItIs_78 (by decide) ?_
                            exact ih14 (i14 + 1) _ _ _ _ hlt14 (by omega) (by rw [ey17, ex14]; exact nI_1 i14) hP hD hS (lv_sub hl [0, 1] rfl)
                      exact loop14 (60 + 1) 0 0 _ _ _ (Nat.zero_le _) (by omega) nI_0.symm hP hD hS hl
                    · have hlt13 : i13 < 360 := by
                        rcases Nat.lt_or_ge i13 360 with q | q
                        · exact q
                        · exact absurd (by rw [ex13]; exact nI_le q (by omega)) cc_
                      refine lv_aload_n hx hb dX9_asItIs_47 rfl (lv_at hl 1 rfl) ?_
                      refine va_get (D := (dC, dI)) (ci := 9) (v := .ref (g 16)) (C := RX9) (T := TX9) (N := 61) hx hb hT inT9 hown hK hP 0 rfl rfl 16 (by decide) (hT _ mw_113) (fun _ h9 => h9) rfl dX9_asItIs_48 ?_
                      refine lv_iload_n hx hb dX9_asItIs_51 rfl (lv_at hl 0 rfl) ?_
                      refine lv_iconst (v := 0) hx hb dX9_asItIs_52 (by decide) ?_
                      refine va_zast hx hb hK hP hD hS 5 4 rfl rfl (by rw [ex13]; exact vp_in_nI (by omega) (by decide)) dX9_asItIs_53 (fun H locs hP hD hS => ?_)
                      have hP : va_P (dC, dI) vwCl [((g 0), .inr (9, oM g 0 0 0 0 0 0 (-1))), ((g 1), .inl ((a 1), 68, .inl (fun _ => 0))), ((g 15), .inl ((a 15), 6, .inl (fun _ => 0))), ((g 17), .inl ((a 17), 6, .inl f11)), ((g 21), .inl ((a 21), 60, .inl (fun _ => 0))), ((g 16), .inl ((a 16), 360, .inl (upd (fun _ => 0) x13.toNatClampNeg (vp_nar .boolean 0))))] H := hP
                      have hD : va_D A [((g 0), .inr (9, oM g 0 0 0 0 0 0 (-1))), ((g 1), .inl ((a 1), 68, .inl (fun _ => 0))), ((g 15), .inl ((a 15), 6, .inl (fun _ => 0))), ((g 17), .inl ((a 17), 6, .inl f11)), ((g 21), .inl ((a 21), 60, .inl (fun _ => 0))), ((g 16), .inl ((a 16), 360, .inl (upd (fun _ => 0) x13.toNatClampNeg (vp_nar .boolean 0))))] := hD
                      rw [u_zn _ .boolean rfl] at hP hD
                      obtain ⟨y18, ey18⟩ : ∃ y : Int32, y = x13 + 1 := ⟨_, rfl⟩
                      refine lv_iinc (v := y18) (lv' := [(1, .int y18), (0, .ref (g 0))]) hx hb dX9_asItIs_54 hl (k := 0) rfl (by rw [ey18]; rfl) (by decide) rfl (fun ls hl => ?_)
                      refine lv_goto (tgt := 40) hx hb dX9_asItIs_57 (by decide) ?_
                      exact ih13 (i13 + 1) _ _ _ _ hlt13 (by omega) (by rw [ey18, ex13]; exact nI_1 i13) hP hD hS (lv_sub hl [0, 1] rfl)
                exact loop13 (360 + 1) 0 0 _ _ _ (Nat.zero_le _) (by omega) nI_0.symm hP hD hS hl
              · exact absurd c12 (by decide)
set_option maxRecDepth 100000 in
set_option maxHeartbeats 4000000 in
theorem k_X9_isHand (l : Launch) (dC : Nat → ClassId) (dI : Nat → Nat → Nat) (g : Nat → Nat) (a : Nat → ClassId) (p0 : Int32)  : MI l dC dI yX9_isHand (Cond.code yX9_isHand cX9_isHand 2 (some .boolean)) ({ frames := 1, cells := 0, slots := 0, locals := 25 }) [.ref (g 0), .int p0] [((a 1), .int)] [((g 0), .inr (9, oM g 0 0 0 0 0 0 (-1))), ((g 1), .inl ((a 1), 68, .inl (fun _ => 0)))] (fun r : Int32 => r = 0) (fun f => [((g 0), .inr (9, oM g 0 0 0 0 0 0 (-1))), ((g 1), .inl ((a 1), 68, .inl (fun _ => 0)))]) := by
  refine m_of (Qc := fun A => QI dC dI A (fun r : Int32 => r = 0) (fun f => [((g 0), .inr (9, oM g 0 0 0 0 0 0 (-1))), ((g 1), .inl ((a 1), 68, .inl (fun _ => 0)))])) (lv := [(0, .ref (g 0)), (1, .int p0)]) (by decide) (Nat.le_of_ble_eq_true rfl) rfl ?_
  intro p e s m below meth c A ls hx hb hr hml hT hown hlocks hname hP hK hD hS hA hl
  have hown : s.vm.findClass RX9 = some m.cls := hown
  refine lv_iload_n hx hb dX9_isHand_0 rfl (lv_at hl 1 rfl) ?_
  refine lv_i2l (v := p0.toInt64) hx hb dX9_isHand_1 rfl ?_
  refine lv_lconst (v := 0) hx hb dX9_isHand_2 (by decide) ?_
  refine lv_aload_n hx hb dX9_isHand_3 rfl (lv_at hl 0 rfl) ?_
  refine va_get (D := (dC, dI)) (ci := 9) (v := .ref (g 1)) (C := RX9) (T := TX9) (N := 61) hx hb hT inT9 hown hK hP 0 rfl rfl 1 (by decide) (hT _ mw_95) (fun _ h9 => h9) rfl dX9_isHand_4 ?_
  refine lv_iconst (v := 5) hx hb dX9_isHand_7 (by decide) ?_
  refine va_iald hx hb hK hP 1 0 rfl rfl (by unfold vp_in; decide) dX9_isHand_8 ?_
  refine t_i 0 rfl ?_
  refine lv_iconst (v := 1) hx hb dX9_isHand_9 (by decide) ?_
  refine lv_isub hx hb dX9_isHand_10 ?_
  refine t_i (-1) (by decide) ?_
  refine lv_i2l (v := (-1)) hx hb dX9_isHand_11 (by decide) ?_
  refine c_Si (As := [.long p0.toInt64, .long 0, .long (-1)]) (rest := []) (wr := [((g 0), .inr (9, oM g 0 0 0 0 0 0 (-1))), ((g 1), .inl ((a 1), 68, .inl (fun _ => 0)))]) (n := 3) ⟨hx, hb, hml, hown, hT⟩ (k_X9_in l dC dI g a p0.toInt64 0 (-1) p0.toInt 0 (-1) (Int32.toInt_toInt64 _) (by decide) (by decide)) hK hP hD hS hA [] rfl [] [0, 1] rfl rfl rfl rfl (by decide) mw_17 mw_18 mw_19 mw_20 (by decide +kernel) ⟨Nat.le_of_ble_eq_true rfl, Nat.le_of_ble_eq_true rfl⟩ ⟨rfl, rfl⟩ rfl hl.1 (Nat.le_of_ble_eq_true rfl) rfl dX9_isHand_12 ⟨Nat.zero_le _, Nat.zero_le _⟩ (fun r f1 H locs er hP hD hS => ?_)
  have hP : va_P (dC, dI) vwCl [((g 0), .inr (9, oM g 0 0 0 0 0 0 (-1))), ((g 1), .inl ((a 1), 68, .inl (fun _ => 0)))] H := hP
  have hD : va_D A [((g 0), .inr (9, oM g 0 0 0 0 0 0 (-1))), ((g 1), .inl ((a 1), 68, .inl (fun _ => 0)))] := hD
  by_cases hc : (0 : Int) ≤ p0.toInt ∧ p0.toInt ≤ (-1 : Int)
  · omega
  · have er : r = 0 := er.trans (if_neg hc)
    subst er
    exact e_z hx hb hr hlocks hP hD hS (fun _ => 0) [0, 1] rfl rfl rfl rfl dX9_isHand_15
set_option maxRecDepth 100000 in
set_option maxHeartbeats 4000000 in
theorem k_X9_hand (l : Launch) (dC : Nat → ClassId) (dI : Nat → Nat → Nat) (g : Nat → Nat) (a : Nat → ClassId) (p0 : Int32) (p1 : Int32)  : MI l dC dI yX9_hand (Cond.code yX9_hand cX9_hand 3 (some .int)) ({ frames := 2, cells := 0, slots := 0, locals := 46 }) [.ref (g 0), .int p0, .int p1] [((a 1), .int), ((a 15), .int), ((a 17), .int), ((a 21), .boolean), ((a 16), .boolean)] [((g 0), .inr (9, oM g 0 0 0 0 0 0 (-1))), ((g 1), .inl ((a 1), 68, .inl (fun _ => 0))), ((g 15), .inl ((a 15), 6, .inl (fun _ => 0))), ((g 17), .inl ((a 17), 6, .inl (fun _ => 0))), ((g 21), .inl ((a 21), 60, .inl (fun _ => 0))), ((g 16), .inl ((a 16), 360, .inl (fun _ => 0)))] (fun r : Int32 => r = (-2)) (fun f => []) := by
  refine m_of (Qc := fun A => QI dC dI A (fun r : Int32 => r = (-2)) (fun f => [])) (lv := [(0, .ref (g 0)), (1, .int p0), (2, .int p1)]) (by decide) (Nat.le_of_ble_eq_true rfl) rfl ?_
  intro p e s m below meth c A ls hx hb hr hml hT hown hlocks hname hP hK hD hS hA hl
  have hown : s.vm.findClass RX9 = some m.cls := hown
  refine lv_aload_n hx hb dX9_hand_0 rfl (lv_at hl 0 rfl) ?_
  refine c_Vv (C := RX9) (As := []) (rest := []) (wr := []) (n := 0) ⟨hx, hb, hml, hown, hT⟩ (k_X9_asItIs l dC dI g a ) hK hP hD hS hA [0, 1, 2, 3, 4] rfl [0, 1, 2, 3, 4, 5] [] rfl rfl rfl rfl (by decide) rfl rfl mw_114 mw_115 mw_116 mw_19 mw_117 (by decide +kernel) ⟨Nat.le_of_ble_eq_true rfl, Nat.le_of_ble_eq_true rfl⟩ ⟨rfl, rfl⟩ rfl hl.1 (Nat.le_of_ble_eq_true rfl) rfl dX9_hand_1 ⟨Nat.zero_le _, Nat.zero_le _⟩ (fun f1 H locs hP hD hS => ?_)
  have hP : va_P (dC, dI) vwCl [((g 0), .inr (9, oM g 0 0 0 0 0 0 (-1))), ((g 1), .inl ((a 1), 68, .inl (fun _ => 0))), ((g 15), .inl ((a 15), 6, .inl (fun _ => 0))), ((g 21), .inl ((a 21), 60, .inl (fun _ => 0))), ((g 16), .inl ((a 16), 360, .inl (fun _ => 0)))] H := hP
  have hD : va_D A [((g 0), .inr (9, oM g 0 0 0 0 0 0 (-1))), ((g 1), .inl ((a 1), 68, .inl (fun _ => 0))), ((g 15), .inl ((a 15), 6, .inl (fun _ => 0))), ((g 21), .inl ((a 21), 60, .inl (fun _ => 0))), ((g 16), .inl ((a 16), 360, .inl (fun _ => 0)))] := hD
  refine lv_aload_n hx hb dX9_hand_4 rfl (lv_at hl 0 rfl) ?_
  refine lv_iload_n hx hb dX9_hand_5 rfl (lv_at hl 1 rfl) ?_
  refine c_Vi (C := RX9) (As := [.int p0]) (rest := []) (wr := [((g 15), .inl ((a 15), 6, .inl (fun _ => 0))), ((g 21), .inl ((a 21), 60, .inl (fun _ => 0))), ((g 16), .inl ((a 16), 360, .inl (fun _ => 0)))]) (n := 1) ⟨hx, hb, hml, hown, hT⟩ (k_X9_isHand l dC dI g a p0) hK hP hD hS hA [0] rfl [0, 1] [2, 3, 4] rfl rfl rfl rfl (by decide) rfl rfl mw_118 mw_119 mw_120 mw_19 mw_121 (by decide +kernel) ⟨Nat.le_of_ble_eq_true rfl, Nat.le_of_ble_eq_true rfl⟩ ⟨rfl, rfl⟩ rfl hl.1 (Nat.le_of_ble_eq_true rfl) rfl dX9_hand_6 ⟨Nat.zero_le _, Nat.zero_le _⟩ (fun r f2 H locs er hP hD hS => ?_)
  have hP : va_P (dC, dI) vwCl [((g 15), .inl ((a 15), 6, .inl (fun _ => 0))), ((g 21), .inl ((a 21), 60, .inl (fun _ => 0))), ((g 16), .inl ((a 16), 360, .inl (fun _ => 0))), ((g 0), .inr (9, oM g 0 0 0 0 0 0 (-1))), ((g 1), .inl ((a 1), 68, .inl (fun _ => 0)))] H := hP
  have hD : va_D A [((g 15), .inl ((a 15), 6, .inl (fun _ => 0))), ((g 21), .inl ((a 21), 60, .inl (fun _ => 0))), ((g 16), .inl ((a 16), 360, .inl (fun _ => 0))), ((g 0), .inr (9, oM g 0 0 0 0 0 0 (-1))), ((g 1), .inl ((a 1), 68, .inl (fun _ => 0)))] := hD
  have er : r = 0 := er
  subst er
  refine lv_if_eq (tgt := 22) hx hb dX9_hand_9 (by decide) (fun c3 => ?_) (fun c3 => ?_)
  · refine lv_bipush (v := (-2)) hx hb dX9_hand_22 (by decide) ?_
    exact e_i hx hb hr hlocks hP hD hS (fun _ => 0) [] rfl rfl rfl dX9_hand_24
  · exact absurd c3 (by decide)
set_option maxRecDepth 100000 in
set_option maxHeartbeats 4000000 in
theorem k_X1_hasPair (l : Launch) (dC : Nat → ClassId) (dI : Nat → Nat → Nat) (g : Nat → Nat) (a : Nat → ClassId) (p0 : Int32)  : MI l dC dI yX1_hasPair (Cond.code yX1_hasPair cX1_hasPair 2 (some .boolean)) ({ frames := 0, cells := 0, slots := 0, locals := 0 }) [.ref (g 16), .int p0] [((a 17), .int)] [((g 16), .inr (1, [.ref (g 17), .ref (g 18), .ref (g 19), .ref (g 20), .ref (g 21), .ref (g 22), .ref (g 23), .ref (g 24), .ref (g 25), .ref (g 26), .ref (g 27)])), ((g 17), .inl ((a 17), 11, .inl (fun _ => 0)))] (fun r : Int32 => r = 0) (fun f => [((g 16), .inr (1, [.ref (g 17), .ref (g 18), .ref (g 19), .ref (g 20), .ref (g 21), .ref (g 22), .ref (g 23), .ref (g 24), .ref (g 25), .ref (g 26), .ref (g 27)])), ((g 17), .inl ((a 17), 11, .inl (fun _ => 0)))]) := by
  refine m_of (Qc := fun A => QI dC dI A (fun r : Int32 => r = 0) (fun f => [((g 16), .inr (1, [.ref (g 17), .ref (g 18), .ref (g 19), .ref (g 20), .ref (g 21), .ref (g 22), .ref (g 23), .ref (g 24), .ref (g 25), .ref (g 26), .ref (g 27)])), ((g 17), .inl ((a 17), 11, .inl (fun _ => 0)))])) (lv := [(0, .ref (g 16)), (1, .int p0)]) (by decide) (Nat.le_of_ble_eq_true rfl) rfl ?_
  intro p e s m below meth c A ls hx hb hr hml hT hown hlocks hname hP hK hD hS hA hl
  have hown : s.vm.findClass RX1 = some m.cls := hown
  refine lv_iload_n hx hb dX1_hasPair_0 rfl (lv_at hl 1 rfl) ?_
  refine lv_if_lt (tgt := 19) hx hb dX1_hasPair_1 (by decide) (fun c1 => ?_) (fun c1 => ?_)
  · have c1 := i_lt p0.toInt 0 rfl (by decide) c1
    refine lv_iconst (v := 0) hx hb dX1_hasPair_19 (by decide) ?_
    exact e_z hx hb hr hlocks hP hD hS (fun _ => 0) [0, 1] rfl rfl rfl rfl dX1_hasPair_20
  · have c1 := i_nlt p0.toInt 0 rfl (by decide) c1
    refine lv_iload_n hx hb dX1_hasPair_4 rfl (lv_at hl 1 rfl) ?_
    refine lv_aload_n hx hb dX1_hasPair_5 rfl (lv_at hl 0 rfl) ?_
    refine va_get (D := (dC, dI)) (ci := 1) (v := .ref (g 17)) (C := RX1) (T := TX1) (N := 11) hx hb hT inT1 hown hK hP 0 rfl rfl 0 (by decide) (hT _ mw_23) (fun _ h9 => h9) rfl dX1_hasPair_6 ?_
    refine lv_bipush (v := 6) hx hb dX1_hasPair_9 (by decide) ?_
    refine va_iald hx hb hK hP 1 0 rfl rfl (by unfold vp_in; decide) dX1_hasPair_11 ?_
    refine t_i 0 rfl ?_
    refine lv_icmp_ge (tgt := 19) hx hb dX1_hasPair_12 (by decide) (fun c2 => ?_) (fun c2 => ?_)
    · have c2 := i_le 0 p0.toInt (by decide) rfl c2
      refine lv_iconst (v := 0) hx hb dX1_hasPair_19 (by decide) ?_
      exact e_z hx hb hr hlocks hP hD hS (fun _ => 0) [0, 1] rfl rfl rfl rfl dX1_hasPair_20
    · have c2 := i_nle 0 p0.toInt (by decide) rfl c2
      omega
