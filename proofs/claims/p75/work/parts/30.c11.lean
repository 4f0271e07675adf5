abbrev q_X8_until (h : PH) (a0 : Int32) : Option PV → PH → Prop := fun r h' => INV h' ∧ FR [0, 70, 71, 72, 73, 74, 75, 76, 77, 78, 79, 80, 81, 82, 83, 84, 85, 86] h h' ∧ (True) ∧ ∃ z : Int32, r = some (.inl z) ∧ (((-2) ≤ z.toInt ∧ z.toInt ≤ 59))
set_option maxHeartbeats 4000000 in
set_option maxRecDepth 100000 in
theorem k_X8_until (h : PH) (hI : INV h) (a0 : Int32) : CALL d_X8_until [.inr (.inr (.inl 0)), .inl a0] h (q_X8_until h a0) := by
  show RUN d_X8_until 0 [(0, .inr (.inr (.inl 0))), (1, .inl a0)] [] h _
  have b1 := i_rng a0
  have fr : FR [0, 70, 71, 72, 73, 74, 75, 76, 77, 78, 79, 80, 81, 82, 83, 84, 85, 86] h h := FR.rf _ _
  refine R_iload_n (k := 1) rfl rfl rfl ?_
  refine N_if_lt (a := a0.toInt) 14 rfl rfl rfl (fun c2 => ?_) (fun c2 => ?_)
  · refine R_bipush (-2) rfl rfl ?_
    exact R_iret rfl rfl rfl ⟨hI, fr, trivial, _, rfl, by rw [show ((-2) : Int32).toInt = (-2) from rfl] <;> omega⟩
  · refine R_aload_n (k := 0) rfl rfl rfl ?_
    refine R_getf_r (j := 3) rfl ft_8_28 sh_0 rfl ?_
    have b3 : (0 : Int) ≤ (h.1 17 0).toInt ∧ (h.1 17 0).toInt ≤ 60 := hI.1 17 0
    have e4 : 0 < (h.1 17 10).toInt → 1 ≤ (h.1 17 0).toInt := hI.2.1
    refine R_callV (v := .inr (.inr (.inl 16))) (As := []) (rest := []) rfl mt_8_i146 pp_X1_stands (by decide) rfl rfl rfl (Nat.le_of_ble_eq_true rfl) (Nat.le_of_ble_eq_true rfl) ((k_X1_stands h hI).mono (fun r5 h6 p7 => ?_))
    obtain ⟨rfl, x8, rfl, q9 | q9⟩ := p7
    · show RUN d_X8_until 11 [(0, .inr (.inr (.inl 0))), (1, .inl a0)] [.inl x8] h _
      refine N_if_ne (a := x8.toInt) 17 rfl rfl rfl (fun c10 => ?_) (fun c10 => ?_)
      · exfalso; omega
      · refine R_bipush (-2) rfl rfl ?_
        exact R_iret rfl rfl rfl ⟨hI, fr, trivial, _, rfl, by rw [show ((-2) : Int32).toInt = (-2) from rfl] <;> omega⟩
    · show RUN d_X8_until 11 [(0, .inr (.inr (.inl 0))), (1, .inl a0)] [.inl x8] h _
      refine N_if_ne (a := x8.toInt) 17 rfl rfl rfl (fun c11 => ?_) (fun c11 => ?_)
      · refine R_aload_n (k := 0) rfl rfl rfl ?_
        refine R_callV (v := .inr (.inr (.inl 0))) (As := []) (rest := []) rfl mt_8_i153 pp_X8_told (by decide) rfl rfl rfl (Nat.le_of_ble_eq_true rfl) (Nat.le_of_ble_eq_true rfl) ((k_X8_told h hI).mono (fun r12 h13 p14 => ?_))
        obtain ⟨hJ, fj, -, rfl⟩ := p14
        have f15 := fj
        have fr := fr.trans fj (by decide)
        have hI := hJ
        have s16 : (h13.1 17 10).toInt = (h.1 17 10).toInt := by rw [(f15 17 (by decide)).1]
        have s17 : (h13.1 17 0).toInt = (h.1 17 0).toInt := by rw [(f15 17 (by decide)).1]
        show RUN d_X8_until 21 [(0, .inr (.inr (.inl 0))), (1, .inl a0)] [.inr (.inr (.inl 75))] h13 _
        refine R_pop_r rfl ?_
        refine R_iconst 0 rfl rfl ?_
        refine R_istore_n (k := 2) rfl [(2, .inl 0), (0, .inr (.inr (.inl 0))), (1, .inl a0)] rfl rfl (by decide) ?_
        have lp19 : ∀ (n18 : Nat) (x20 : Int32), 0 ≤ x20.toInt ∧ x20.toInt ≤ 60 → (60 - x20.toInt).toNat < n18 → RUN d_X8_until 24 [(2, .inl x20), (0, .inr (.inr (.inl 0))), (1, .inl a0)] [] h13 (q_X8_until h a0) := by
          intro n18
          induction n18 with
          | zero => intro x20 m22 hz; exact absurd hz (Nat.not_lt_zero _)
          | succ n18 ih21 =>
            intro x20 m22 hz
            refine R_iload_n (k := 2) rfl rfl rfl ?_
            refine R_aload_n (k := 0) rfl rfl rfl ?_
            refine R_getf_r (j := 3) rfl ft_8_28 sh_0 rfl ?_
            refine R_getf_r (j := 0) rfl ft_8_109 sh_16 rfl ?_
            refine R_iconst 0 rfl rfl ?_
            refine R_iald rfl sh_17 (by decide) ?_
            show RUN d_X8_until 34 [(2, .inl x20), (0, .inr (.inr (.inl 0))), (1, .inl a0)] [.inl (h13.1 17 0), .inl x20] h13 _
            refine N_icmp_ge (a := x20.toInt) (b := (h13.1 17 0).toInt) 57 rfl rfl rfl rfl (fun c23 => ?_) (fun c23 => ?_)
            · refine R_iconst (-1) rfl rfl ?_
              exact R_iret rfl rfl rfl ⟨hI, fr, trivial, _, rfl, by rw [show ((-1) : Int32).toInt = (-1) from rfl] <;> omega⟩
            · refine R_aload_n (k := 0) rfl rfl rfl ?_
              refine R_getf_r (j := 8) rfl ft_8_56 sh_0 rfl ?_
              refine R_iload_n (k := 2) rfl rfl rfl ?_
              refine R_callV (v := .inr (.inr (.inl 75))) (As := [.inl x20]) (rest := []) rfl mt_8_i196 pp_X6_waterTo (by decide) rfl rfl rfl (Nat.le_of_ble_eq_true rfl) (Nat.le_of_ble_eq_true rfl) ((k_X6_waterTo h13 hI x20 (by omega)).mono (fun r24 h25 p26 => ?_))
              obtain ⟨rfl, x27, rfl, q28⟩ := p26
              show RUN d_X8_until 45 [(2, .inl x20), (0, .inr (.inr (.inl 0))), (1, .inl a0)] [.inl x27] h13 _
              refine R_iload_n (k := 1) rfl rfl rfl ?_
              refine N_icmp_lt (a := x27.toInt) (b := a0.toInt) 51 rfl rfl rfl rfl (fun c29 => ?_) (fun c29 => ?_)
              · refine N_iinc (a := x20.toInt) (c := 1) (fun w => [(2, .inl w), (0, .inr (.inr (.inl 0))), (1, .inl a0)]) rfl rfl (fun _ => rfl) (by decide) rfl (by decide) (by omega) (fun x30 q31 => ?_)
                refine R_goto 24 rfl rfl ?_
                exact RUN_weak (psub_cons rfl (psub_cons rfl (psub_cons rfl (psub_nil _)))) (ih21 x30 (by omega) (by omega))
              · refine R_iload_n (k := 2) rfl rfl rfl ?_
                exact R_iret rfl rfl rfl ⟨hI, fr, trivial, _, rfl, by omega⟩
        exact lp19 _ (0 : Int32) (by decide) (Nat.lt_succ_self _)
      · exfalso; omega
abbrev q_X9_until (h : PH) (a0 : Int32) : Option PV → PH → Prop := fun r h' => INV h' ∧ FR [96, 103, 104, 105, 106, 107, 108, 109, 110, 111, 112, 113, 114, 115, 116, 117, 118, 119] h h' ∧ (True) ∧ ∃ z : Int32, r = some (.inl z) ∧ (((-2) ≤ z.toInt ∧ z.toInt ≤ 59))
set_option maxHeartbeats 4000000 in
set_option maxRecDepth 100000 in
theorem k_X9_until (h : PH) (hI : INV h) (a0 : Int32) : CALL d_X9_until [.inr (.inr (.inl 96)), .inl a0] h (q_X9_until h a0) := by
  show RUN d_X9_until 0 [(0, .inr (.inr (.inl 96))), (1, .inl a0)] [] h _
  have b1 := i_rng a0
  have fr : FR [96, 103, 104, 105, 106, 107, 108, 109, 110, 111, 112, 113, 114, 115, 116, 117, 118, 119] h h := FR.rf _ _
  refine R_aload_n (k := 0) rfl rfl rfl ?_
  have b2 : (0 : Int) ≤ (h.1 97 0).toInt ∧ (h.1 97 0).toInt ≤ 60 := hI.1 97 0
  have e3 : 0 < (h.1 97 10).toInt → 1 ≤ (h.1 97 0).toInt := hI.2.2.2.2.2.1.2.1
  refine R_callV (v := .inr (.inr (.inl 96))) (As := []) (rest := []) rfl mt_9_i307 pp_X9_asksBrigade (by decide) rfl rfl rfl (Nat.le_of_ble_eq_true rfl) (Nat.le_of_ble_eq_true rfl) ((k_X9_asksBrigade h hI).mono (fun r4 h5 p6 => ?_))
  obtain ⟨hJ, fj, -, x7, rfl, q8 | q8⟩ := p6
  · have f9 := fj
    have fr := fr.trans fj (by decide)
    have hI := hJ
    have s10 : (h5.1 97 10).toInt = (h.1 97 10).toInt := by rw [(f9 97 (by decide)).1]
    have s11 : (h5.1 97 0).toInt = (h.1 97 0).toInt := by rw [(f9 97 (by decide)).1]
    show RUN d_X9_until 4 [(0, .inr (.inr (.inl 96))), (1, .inl a0)] [.inl x7] h5 _
    refine N_if_eq (a := x7.toInt) 11 rfl rfl rfl (fun c12 => ?_) (fun c12 => ?_)
    · refine R_bipush (-2) rfl rfl ?_
      exact R_iret rfl rfl rfl ⟨hI, fr, trivial, _, rfl, by rw [show ((-2) : Int32).toInt = (-2) from rfl] <;> omega⟩
    · exfalso; omega
  · have f13 := fj
    have fr := fr.trans fj (by decide)
    have hI := hJ
    have s14 : (h5.1 97 10).toInt = (h.1 97 10).toInt := by rw [(f13 97 (by decide)).1]
    have s15 : (h5.1 97 0).toInt = (h.1 97 0).toInt := by rw [(f13 97 (by decide)).1]
    show RUN d_X9_until 4 [(0, .inr (.inr (.inl 96))), (1, .inl a0)] [.inl x7] h5 _
    refine N_if_eq (a := x7.toInt) 11 rfl rfl rfl (fun c16 => ?_) (fun c16 => ?_)
    · exfalso; omega
    · refine R_iload_n (k := 1) rfl rfl rfl ?_
      refine N_if_ge (a := a0.toInt) 14 rfl rfl rfl (fun c17 => ?_) (fun c17 => ?_)
      · refine R_iconst 0 rfl rfl ?_
        refine R_istore_n (k := 2) rfl [(2, .inl 0), (0, .inr (.inr (.inl 96))), (1, .inl a0)] rfl rfl (by decide) ?_
        have lp19 : ∀ (n18 : Nat) (x20 : Int32), 0 ≤ x20.toInt ∧ x20.toInt ≤ 60 → (60 - x20.toInt).toNat < n18 → RUN d_X9_until 16 [(2, .inl x20), (0, .inr (.inr (.inl 96))), (1, .inl a0)] [] h5 (q_X9_until h a0) := by
          intro n18
          induction n18 with
          | zero => intro x20 m22 hz; exact absurd hz (Nat.not_lt_zero _)
          | succ n18 ih21 =>
            intro x20 m22 hz
            refine R_iload_n (k := 2) rfl rfl rfl ?_
            refine R_aload_n (k := 0) rfl rfl rfl ?_
            refine R_callV (v := .inr (.inr (.inl 96))) (As := []) (rest := [.inl x20]) rfl mt_9_i129 pp_X9_last (by decide) rfl rfl rfl (Nat.le_of_ble_eq_true rfl) (Nat.le_of_ble_eq_true rfl) ((k_X9_last h5 hI).mono (fun r23 h24 p25 => ?_))
            obtain ⟨rfl, x26, rfl, q27⟩ := p25
            show RUN d_X9_until 21 [(2, .inl x20), (0, .inr (.inr (.inl 96))), (1, .inl a0)] [.inl x26, .inl x20] h5 _
            refine N_icmp_gt (a := x20.toInt) (b := x26.toInt) 42 rfl rfl rfl rfl (fun c28 => ?_) (fun c28 => ?_)
            · refine R_iconst (-1) rfl rfl ?_
              exact R_iret rfl rfl rfl ⟨hI, fr, trivial, _, rfl, by rw [show ((-1) : Int32).toInt = (-1) from rfl] <;> omega⟩
            · refine R_aload_n (k := 0) rfl rfl rfl ?_
              refine R_getf_r (j := 29) rfl ft_9_67 sh_96 rfl ?_
              refine R_iload_n (k := 2) rfl rfl rfl ?_
              refine R_iald rfl sh_114 ⟨by omega, by omega⟩ ?_
              refine N_any (fun x29 => ?_)
              refine R_iload_n (k := 1) rfl rfl rfl ?_
              refine N_icmp_lt (a := x29.toInt) (b := a0.toInt) 36 rfl rfl rfl rfl (fun c30 => ?_) (fun c30 => ?_)
              · refine N_iinc (a := x20.toInt) (c := 1) (fun w => [(2, .inl w), (0, .inr (.inr (.inl 96))), (1, .inl a0)]) rfl rfl (fun _ => rfl) (by decide) rfl (by decide) (by omega) (fun x31 q32 => ?_)
                refine R_goto 16 rfl rfl ?_
                exact RUN_weak (psub_cons rfl (psub_cons rfl (psub_cons rfl (psub_nil _)))) (ih21 x31 (by omega) (by omega))
              · refine R_iload_n (k := 2) rfl rfl rfl ?_
                exact R_iret rfl rfl rfl ⟨hI, fr, trivial, _, rfl, by omega⟩
        exact lp19 _ (0 : Int32) (by decide) (Nat.lt_succ_self _)
      · refine R_bipush (-2) rfl rfl ?_
        exact R_iret rfl rfl rfl ⟨hI, fr, trivial, _, rfl, by rw [show ((-2) : Int32).toInt = (-2) from rfl] <;> omega⟩
abbrev q_X2_play (h : PH) (a0 : Int32) (a1 : Int64) : Option PV → PH → Prop := fun r h' => INV h' ∧ FR [70, 74] h h' ∧ ((h'.1 70 5).toInt = (h.1 70 5).toInt ∧ True) ∧ ∃ z : Int64, r = some (.inr (.inl z))
set_option maxHeartbeats 4000000 in
set_option maxRecDepth 100000 in
theorem k_X2_play (h : PH) (hI : INV h) (a0 : Int32) (a1 : Int64) (h0a : 0 ≤ a0.toInt ∧ a0.toInt ≤ 60) : CALL d_X2_play [.inr (.inr (.inl 70)), .inl a0, .inr (.inl a1)] h (q_X2_play h a0 a1) := by
  show RUN d_X2_play 0 [(0, .inr (.inr (.inl 70))), (1, .inl a0), (2, .inr (.inl a1))] [] h _
  have fr : FR [70, 74] h h := FR.rf _ _
  refine R_aload_n (k := 0) rfl rfl rfl ?_
  refine R_callV (v := .inr (.inr (.inl 70))) (As := []) (rest := []) rfl mt_2_i66 pp_X2_begin (by decide) rfl rfl rfl (Nat.le_of_ble_eq_true rfl) (Nat.le_of_ble_eq_true rfl) ((k_X2_begin h hI).mono (fun r1 h2 p3 => ?_))
  obtain ⟨hJ, fj, ⟨kp4, -⟩, rfl⟩ := p3
  have f5 := fj
  have fr := fr.trans fj (by decide)
  have hI := hJ
  show RUN d_X2_play 4 [(0, .inr (.inr (.inl 70))), (1, .inl a0), (2, .inr (.inl a1))] [] h2 _
  refine R_lconst 0 rfl rfl ?_
  refine R_lstore (k := 4) [(4, .inr (.inl 0)), (0, .inr (.inr (.inl 70))), (1, .inl a0), (2, .inr (.inl a1))] rfl rfl (by decide) ?_
  refine R_iconst 0 rfl rfl ?_
  refine R_istore (k := 6) [(6, .inl 0), (4, .inr (.inl 0)), (0, .inr (.inr (.inl 70))), (1, .inl a0), (2, .inr (.inl a1))] rfl rfl (by decide) ?_
  have lp7 : ∀ (n6 : Nat) (h8 : PH) (w10 : Int64) (x11 : Int32), INV h8 → FR [70, 74] h h8 → FR [70, 74] h2 h8 → 0 ≤ x11.toInt ∧ x11.toInt ≤ 60 → (h8.1 70 5).toInt = (h2.1 70 5).toInt → x11.toInt ≤ a0.toInt + 0 → (60 - x11.toInt).toNat < n6 → RUN d_X2_play 10 [(6, .inl x11), (4, .inr (.inl w10)), (0, .inr (.inr (.inl 70))), (1, .inl a0), (2, .inr (.inl a1))] [] h8 (q_X2_play h a0 a1) := by
    intro n6
    induction n6 with
    | zero => intro h8 w10 x11 m13 m14 m15 m16 m17 m18 hz; exact absurd hz (Nat.not_lt_zero _)
    | succ n6 ih12 =>
      intro h8 w10 x11 hI fr fl9 m16 m17 m18 hz
      refine R_iload (k := 6) rfl rfl ?_
      refine R_iload_n (k := 1) rfl rfl rfl ?_
      refine N_icmp_ge (a := x11.toInt) (b := a0.toInt) 57 rfl rfl rfl rfl (fun c19 => ?_) (fun c19 => ?_)
      · refine R_lload (k := 4) rfl rfl ?_
        exact R_lret rfl rfl ⟨hI, fr, ⟨by omega, trivial⟩, _, rfl⟩
      · refine R_iload (k := 6) rfl rfl ?_
        refine R_bipush 60 rfl rfl ?_
        refine N_icmp_ge (a := x11.toInt) (b := 60) 57 rfl rfl rfl (by decide) (fun c20 => ?_) (fun c20 => ?_)
        · exfalso; omega
        · refine R_aload_n (k := 0) rfl rfl rfl ?_
          refine R_aload_n (k := 0) rfl rfl rfl ?_
          refine R_iload (k := 6) rfl rfl ?_
          refine R_lload_n (k := 2) rfl rfl rfl ?_
          refine R_iload (k := 6) rfl rfl ?_
          refine R_callS (As := [.inr (.inl a1), .inl x11]) (rest := [.inl x11, .inr (.inr (.inl 70)), .inr (.inr (.inl 70))]) rfl mt_2_i69 (by decide) pp_X8_hasBit (by decide) rfl rfl (Nat.le_of_ble_eq_true rfl) (Nat.le_of_ble_eq_true rfl) ((k_X8_hasBit h8 hI a1 x11).mono (fun r21 h22 p23 => ?_))
          obtain ⟨rfl, x24, rfl, q25 | q25⟩ := p23
          · show RUN d_X2_play 33 [(6, .inl x11), (4, .inr (.inl w10)), (0, .inr (.inr (.inl 70))), (1, .inl a0), (2, .inr (.inl a1))] [.inl x24, .inl x11, .inr (.inr (.inl 70)), .inr (.inr (.inl 70))] h8 _
            refine R_callV (v := .inr (.inr (.inl 70))) (As := [.inl x11, .inl x24]) (rest := [.inr (.inr (.inl 70))]) rfl mt_2_i73 pp_X2_step (by decide) rfl rfl rfl (Nat.le_of_ble_eq_true rfl) (Nat.le_of_ble_eq_true rfl) ((k_X2_step h8 hI x11 x24 (by omega) (by omega)).mono (fun r26 h27 p28 => ?_))
            obtain ⟨hJ, fj, ⟨kp29, -⟩, x30, rfl, q31⟩ := p28
            have f32 := fj
            have fr := fr.trans fj (by decide)
            have hI := hJ
            have fl9 : FR [70, 74] h2 h27 := fl9.trans fj (by decide)
            show RUN d_X2_play 36 [(6, .inl x11), (4, .inr (.inl w10)), (0, .inr (.inr (.inl 70))), (1, .inl a0), (2, .inr (.inl a1))] [.inl x30, .inr (.inr (.inl 70))] h27 _
            have b33 : (0 : Int) ≤ (h27.1 70 4).toInt ∧ (h27.1 70 4).toInt ≤ 6 := hI.1 70 4
            refine R_callV (v := .inr (.inr (.inl 70))) (As := [.inl x30]) (rest := []) rfl mt_2_i77 pp_X2_isThrow (by decide) rfl rfl rfl (Nat.le_of_ble_eq_true rfl) (Nat.le_of_ble_eq_true rfl) ((k_X2_isThrow h27 hI x30).mono (fun r34 h35 p36 => ?_))
            obtain ⟨rfl, x37, rfl, q38 | q38 | q38⟩ := p36
            · show RUN d_X2_play 39 [(6, .inl x11), (4, .inr (.inl w10)), (0, .inr (.inr (.inl 70))), (1, .inl a0), (2, .inr (.inl a1))] [.inl x37] h27 _
              refine N_if_eq (a := x37.toInt) 51 rfl rfl rfl (fun c39 => ?_) (fun c39 => ?_)
              · refine N_iinc (a := x11.toInt) (c := 1) (fun w => [(6, .inl w), (4, .inr (.inl w10)), (0, .inr (.inr (.inl 70))), (1, .inl a0), (2, .inr (.inl a1))]) rfl rfl (fun _ => rfl) (by decide) rfl (by decide) (by omega) (fun x40 q41 => ?_)
                refine R_goto 10 rfl rfl ?_
                exact RUN_weak (psub_cons rfl (psub_cons rfl (psub_cons rfl (psub_cons rfl (psub_cons rfl (psub_nil _)))))) (ih12 h27 w10 x40 hI fr fl9 (by omega) (by omega) (by omega) (by omega))
              · exfalso; omega
            · show RUN d_X2_play 39 [(6, .inl x11), (4, .inr (.inl w10)), (0, .inr (.inr (.inl 70))), (1, .inl a0), (2, .inr (.inl a1))] [.inl x37] h27 _
              refine N_if_eq (a := x37.toInt) 51 rfl rfl rfl (fun c42 => ?_) (fun c42 => ?_)
              · refine N_iinc (a := x11.toInt) (c := 1) (fun w => [(6, .inl w), (4, .inr (.inl w10)), (0, .inr (.inr (.inl 70))), (1, .inl a0), (2, .inr (.inl a1))]) rfl rfl (fun _ => rfl) (by decide) rfl (by decide) (by omega) (fun x43 q44 => ?_)
                refine R_goto 10 rfl rfl ?_
                exact RUN_weak (psub_cons rfl (psub_cons rfl (psub_cons rfl (psub_cons rfl (psub_cons rfl (psub_nil _)))))) (ih12 h27 w10 x43 hI fr fl9 (by omega) (by omega) (by omega) (by omega))
              · exfalso; omega
            · show RUN d_X2_play 39 [(6, .inl x11), (4, .inr (.inl w10)), (0, .inr (.inr (.inl 70))), (1, .inl a0), (2, .inr (.inl a1))] [.inl x37] h27 _
              refine N_if_eq (a := x37.toInt) 51 rfl rfl rfl (fun c45 => ?_) (fun c45 => ?_)
              · exfalso; omega
              · refine R_lload (k := 4) rfl rfl ?_
                refine R_lconst 1 rfl rfl ?_
                refine R_iload (k := 6) rfl rfl ?_
                refine R_lshl rfl ?_
                refine N_anyL (fun w46 => ?_)
                refine R_lor rfl ?_
                refine N_anyL (fun w47 => ?_)
                refine R_lstore (k := 4) [(4, .inr (.inl w47)), (6, .inl x11), (0, .inr (.inr (.inl 70))), (1, .inl a0), (2, .inr (.inl a1))] rfl rfl (by decide) ?_
                refine N_iinc (a := x11.toInt) (c := 1) (fun w => [(6, .inl w), (4, .inr (.inl w47)), (0, .inr (.inr (.inl 70))), (1, .inl a0), (2, .inr (.inl a1))]) rfl rfl (fun _ => rfl) (by decide) rfl (by decide) (by omega) (fun x48 q49 => ?_)
                refine R_goto 10 rfl rfl ?_
                exact RUN_weak (psub_cons rfl (psub_cons rfl (psub_cons rfl (psub_cons rfl (psub_cons rfl (psub_nil _)))))) (ih12 h27 w47 x48 hI fr fl9 (by omega) (by omega) (by omega) (by omega))
          · show RUN d_X2_play 33 [(6, .inl x11), (4, .inr (.inl w10)), (0, .inr (.inr (.inl 70))), (1, .inl a0), (2, .inr (.inl a1))] [.inl x24, .inl x11, .inr (.inr (.inl 70)), .inr (.inr (.inl 70))] h8 _
            refine R_callV (v := .inr (.inr (.inl 70))) (As := [.inl x11, .inl x24]) (rest := [.inr (.inr (.inl 70))]) rfl mt_2_i73 pp_X2_step (by decide) rfl rfl rfl (Nat.le_of_ble_eq_true rfl) (Nat.le_of_ble_eq_true rfl) ((k_X2_step h8 hI x11 x24 (by omega) (by omega)).mono (fun r50 h51 p52 => ?_))
            obtain ⟨hJ, fj, ⟨kp53, -⟩, x54, rfl, q55⟩ := p52
            have f56 := fj
            have fr := fr.trans fj (by decide)
            have hI := hJ
            have fl9 : FR [70, 74] h2 h51 := fl9.trans fj (by decide)
            show RUN d_X2_play 36 [(6, .inl x11), (4, .inr (.inl w10)), (0, .inr (.inr (.inl 70))), (1, .inl a0), (2, .inr (.inl a1))] [.inl x54, .inr (.inr (.inl 70))] h51 _
            have b57 : (0 : Int) ≤ (h51.1 70 4).toInt ∧ (h51.1 70 4).toInt ≤ 6 := hI.1 70 4
            refine R_callV (v := .inr (.inr (.inl 70))) (As := [.inl x54]) (rest := []) rfl mt_2_i77 pp_X2_isThrow (by decide) rfl rfl rfl (Nat.le_of_ble_eq_true rfl) (Nat.le_of_ble_eq_true rfl) ((k_X2_isThrow h51 hI x54).mono (fun r58 h59 p60 => ?_))
            obtain ⟨rfl, x61, rfl, q62 | q62 | q62⟩ := p60
            · show RUN d_X2_play 39 [(6, .inl x11), (4, .inr (.inl w10)), (0, .inr (.inr (.inl 70))), (1, .inl a0), (2, .inr (.inl a1))] [.inl x61] h51 _
              refine N_if_eq (a := x61.toInt) 51 rfl rfl rfl (fun c63 => ?_) (fun c63 => ?_)
              · refine N_iinc (a := x11.toInt) (c := 1) (fun w => [(6, .inl w), (4, .inr (.inl w10)), (0, .inr (.inr (.inl 70))), (1, .inl a0), (2, .inr (.inl a1))]) rfl rfl (fun _ => rfl) (by decide) rfl (by decide) (by omega) (fun x64 q65 => ?_)
                refine R_goto 10 rfl rfl ?_
                exact RUN_weak (psub_cons rfl (psub_cons rfl (psub_cons rfl (psub_cons rfl (psub_cons rfl (psub_nil _)))))) (ih12 h51 w10 x64 hI fr fl9 (by omega) (by omega) (by omega) (by omega))
              · exfalso; omega
            · show RUN d_X2_play 39 [(6, .inl x11), (4, .inr (.inl w10)), (0, .inr (.inr (.inl 70))), (1, .inl a0), (2, .inr (.inl a1))] [.inl x61] h51 _
              refine N_if_eq (a := x61.toInt) 51 rfl rfl rfl (fun c66 => ?_) (fun c66 => ?_)
              · refine N_iinc (a := x11.toInt) (c := 1) (fun w => [(6, .inl w), (4, .inr (.inl w10)), (0, .inr (.inr (.inl 70))), (1, .inl a0), (2, .inr (.inl a1))]) rfl rfl (fun _ => rfl) (by decide) rfl (by decide) (by omega) (fun x67 q68 => ?_)
                refine R_goto 10 rfl rfl ?_
                exact RUN_weak (psub_cons rfl (psub_cons rfl (psub_cons rfl (psub_cons rfl (psub_cons rfl (psub_nil _)))))) (ih12 h51 w10 x67 hI fr fl9 (by omega) (by omega) (by omega) (by omega))
              · exfalso; omega
            · show RUN d_X2_play 39 [(6, .inl x11), (4, .inr (.inl w10)), (0, .inr (.inr (.inl 70))), (1, .inl a0), (2, .inr (.inl a1))] [.inl x61] h51 _
              refine N_if_eq (a := x61.toInt) 51 rfl rfl rfl (fun c69 => ?_) (fun c69 => ?_)
              · exfalso; omega
              · refine R_lload (k := 4) rfl rfl ?_
                refine R_lconst 1 rfl rfl ?_
                refine R_iload (k := 6) rfl rfl ?_
                refine R_lshl rfl ?_
                refine N_anyL (fun w70 => ?_)
                refine R_lor rfl ?_
                refine N_anyL (fun w71 => ?_)
                refine R_lstore (k := 4) [(4, .inr (.inl w71)), (6, .inl x11), (0, .inr (.inr (.inl 70))), (1, .inl a0), (2, .inr (.inl a1))] rfl rfl (by decide) ?_
                refine N_iinc (a := x11.toInt) (c := 1) (fun w => [(6, .inl w), (4, .inr (.inl w71)), (0, .inr (.inr (.inl 70))), (1, .inl a0), (2, .inr (.inl a1))]) rfl rfl (fun _ => rfl) (by decide) rfl (by decide) (by omega) (fun x72 q73 => ?_)
                refine R_goto 10 rfl rfl ?_
                exact RUN_weak (psub_cons rfl (psub_cons rfl (psub_cons rfl (psub_cons rfl (psub_cons rfl (psub_nil _)))))) (ih12 h51 w71 x72 hI fr fl9 (by omega) (by omega) (by omega) (by omega))
  have k74 : (0 : Int32).toInt = 0 := by decide
  exact lp7 _ h2 (0 : Int64) (0 : Int32) hI fr (FR.rf _ _) (by decide) rfl (by omega) (Nat.lt_succ_self _)
abbrev q_X8_playLine (h : PH)  : Option PV → PH → Prop := fun r h' => INV h' ∧ FR [70, 74] h h' ∧ ((h'.1 70 5).toInt = (h.1 70 5).toInt ∧ True) ∧ ∃ z : Int64, r = some (.inr (.inl z))
set_option maxHeartbeats 4000000 in
set_option maxRecDepth 100000 in
theorem k_X8_playLine (h : PH) (hI : INV h)  : CALL d_X8_playLine [.inr (.inr (.inl 0))] h (q_X8_playLine h) := by
  show RUN d_X8_playLine 0 [(0, .inr (.inr (.inl 0)))] [] h _
  have fr : FR [70, 74] h h := FR.rf _ _
  refine R_aload_n (k := 0) rfl rfl rfl ?_
  refine R_getf_r (j := 7) rfl ft_8_49 sh_0 rfl ?_
  refine R_aload_n (k := 0) rfl rfl rfl ?_
  refine R_getf_r (j := 3) rfl ft_8_28 sh_0 rfl ?_
  refine R_getf_r (j := 0) rfl ft_8_109 sh_16 rfl ?_
  refine R_iconst 0 rfl rfl ?_
  refine R_iald rfl sh_17 (by decide) ?_
  have b1 : (0 : Int) ≤ (h.1 17 0).toInt ∧ (h.1 17 0).toInt ≤ 60 := hI.1 17 0
  show RUN d_X8_playLine 13 [(0, .inr (.inr (.inl 0)))] [.inl (h.1 17 0), .inr (.inr (.inl 70))] h _
  refine R_lconst 0 rfl rfl ?_
  have k2 : (0 : Int64).toInt = 0 := by decide
  refine R_callV (v := .inr (.inr (.inl 70))) (As := [.inl (h.1 17 0), .inr (.inl 0)]) (rest := []) rfl mt_8_i347 pp_X2_play (by decide) rfl rfl rfl (Nat.le_of_ble_eq_true rfl) (Nat.le_of_ble_eq_true rfl) ((k_X2_play h hI (h.1 17 0) (0 : Int64) (by omega)).mono (fun r3 h4 p5 => ?_))
  obtain ⟨hJ, fj, ⟨kp6, -⟩, w7, rfl⟩ := p5
  have f8 := fj
  have fr := fr.trans fj (by decide)
  have hI := hJ
  have s9 : (h4.1 17 0).toInt = (h.1 17 0).toInt := by rw [(f8 17 (by decide)).1]
  show RUN d_X8_playLine 17 [(0, .inr (.inr (.inl 0)))] [.inr (.inl w7)] h4 _
  exact R_lret rfl rfl ⟨hI, fr, ⟨by omega, trivial⟩, _, rfl⟩
abbrev q_X8_with (h : PH) (a0 : Int32) : Option PV → PH → Prop := fun r h' => INV h' ∧ FR [70, 71, 72, 73, 74] h h' ∧ (True) ∧ ∃ z : Int32, r = some (.inl z) ∧ (((-2) ≤ z.toInt ∧ z.toInt ≤ 59))
set_option maxHeartbeats 4000000 in
set_option maxRecDepth 100000 in
theorem k_X8_with (h : PH) (hI : INV h) (a0 : Int32) : CALL d_X8_with [.inr (.inr (.inl 0)), .inl a0] h (q_X8_with h a0) := by
  show RUN d_X8_with 0 [(0, .inr (.inr (.inl 0))), (1, .inl a0)] [] h _
  have b1 := i_rng a0
  have fr : FR [70, 71, 72, 73, 74] h h := FR.rf _ _
  refine R_iload_n (k := 1) rfl rfl rfl ?_
  refine R_iconst 1 rfl rfl ?_
  refine N_icmp_lt (a := a0.toInt) (b := 1) 21 rfl rfl rfl (by decide) (fun c2 => ?_) (fun c2 => ?_)
  · refine R_bipush (-2) rfl rfl ?_
    exact R_iret rfl rfl rfl ⟨hI, fr, trivial, _, rfl, by rw [show ((-2) : Int32).toInt = (-2) from rfl] <;> omega⟩
  · refine R_iload_n (k := 1) rfl rfl rfl ?_
    refine R_bipush 8 rfl rfl ?_
    refine N_icmp_gt (a := a0.toInt) (b := 8) 21 rfl rfl rfl (by decide) (fun c3 => ?_) (fun c3 => ?_)
    · refine R_bipush (-2) rfl rfl ?_
      exact R_iret rfl rfl rfl ⟨hI, fr, trivial, _, rfl, by rw [show ((-2) : Int32).toInt = (-2) from rfl] <;> omega⟩
    · refine R_aload_n (k := 0) rfl rfl rfl ?_
      refine R_getf_r (j := 3) rfl ft_8_28 sh_0 rfl ?_
      have b4 : (0 : Int) ≤ (h.1 17 0).toInt ∧ (h.1 17 0).toInt ≤ 60 := hI.1 17 0
      have e5 : 0 < (h.1 17 10).toInt → 1 ≤ (h.1 17 0).toInt := hI.2.1
      refine R_callV (v := .inr (.inr (.inl 16))) (As := []) (rest := []) rfl mt_8_i146 pp_X1_stands (by decide) rfl rfl rfl (Nat.le_of_ble_eq_true rfl) (Nat.le_of_ble_eq_true rfl) ((k_X1_stands h hI).mono (fun r6 h7 p8 => ?_))
      obtain ⟨rfl, x9, rfl, q10 | q10⟩ := p8
      · show RUN d_X8_with 18 [(0, .inr (.inr (.inl 0))), (1, .inl a0)] [.inl x9] h _
        refine N_if_ne (a := x9.toInt) 24 rfl rfl rfl (fun c11 => ?_) (fun c11 => ?_)
        · exfalso; omega
        · refine R_bipush (-2) rfl rfl ?_
          exact R_iret rfl rfl rfl ⟨hI, fr, trivial, _, rfl, by rw [show ((-2) : Int32).toInt = (-2) from rfl] <;> omega⟩
      · show RUN d_X8_with 18 [(0, .inr (.inr (.inl 0))), (1, .inl a0)] [.inl x9] h _
        refine N_if_ne (a := x9.toInt) 24 rfl rfl rfl (fun c12 => ?_) (fun c12 => ?_)
        · refine R_aload_n (k := 0) rfl rfl rfl ?_
          refine R_callV (v := .inr (.inr (.inl 0))) (As := []) (rest := []) rfl mt_8_i237 pp_X8_lineAsNow (by decide) rfl rfl rfl (Nat.le_of_ble_eq_true rfl) (Nat.le_of_ble_eq_true rfl) ((k_X8_lineAsNow h hI).mono (fun r13 h14 p15 => ?_))
          obtain ⟨hJ, fj, -, rfl⟩ := p15
          have f16 := fj
          have fr := fr.trans fj (by decide)
          have hI := hJ
          have s17 : (h14.1 17 10).toInt = (h.1 17 10).toInt := by rw [(f16 17 (by decide)).1]
          have s18 : (h14.1 17 0).toInt = (h.1 17 0).toInt := by rw [(f16 17 (by decide)).1]
          show RUN d_X8_with 28 [(0, .inr (.inr (.inl 0))), (1, .inl a0)] [] h14 _
          refine R_aload_n (k := 0) rfl rfl rfl ?_
          refine R_getf_r (j := 7) rfl ft_8_49 sh_0 rfl ?_
          refine R_iload_n (k := 1) rfl rfl rfl ?_
          refine K_putf (j := 5) (lo := (-2147483648)) (hi' := 2147483647) rfl ft_8_240 sh_70 rfl hI (by decide) rfl (i_rng _) fr (by decide) (fun h19 g20 hI fr => ?_)
          have s21 : (h19.1 17 10).toInt = (h14.1 17 10).toInt := by rw [g20, wI_ne _ _ _ (by decide)]
          have s22 : (h19.1 17 0).toInt = (h14.1 17 0).toInt := by rw [g20, wI_ne _ _ _ (by decide)]
          have s23 : (h19.1 70 5).toInt = a0.toInt := by rw [g20, wI_is]
          refine R_aload_n (k := 0) rfl rfl rfl ?_
          refine R_aload_n (k := 0) rfl rfl rfl ?_
          refine R_callV (v := .inr (.inr (.inl 0))) (As := []) (rest := [.inr (.inr (.inl 0))]) rfl mt_8_i243 pp_X8_playLine (by decide) rfl rfl rfl (Nat.le_of_ble_eq_true rfl) (Nat.le_of_ble_eq_true rfl) ((k_X8_playLine h19 hI).mono (fun r24 h25 p26 => ?_))
          obtain ⟨hJ, fj, ⟨kp27, -⟩, w28, rfl⟩ := p26
          have f29 := fj
          have fr := fr.trans fj (by decide)
          have hI := hJ
          have s30 : (h25.1 17 10).toInt = (h19.1 17 10).toInt := by rw [(f29 17 (by decide)).1]
          have s31 : (h25.1 17 0).toInt = (h19.1 17 0).toInt := by rw [(f29 17 (by decide)).1]
          show RUN d_X8_with 41 [(0, .inr (.inr (.inl 0))), (1, .inl a0)] [.inr (.inl w28), .inr (.inr (.inl 0))] h25 _
          refine R_aload_n (k := 0) rfl rfl rfl ?_
          refine R_getf_r (j := 7) rfl ft_8_49 sh_0 rfl ?_
          refine R_callV (v := .inr (.inr (.inl 70))) (As := []) (rest := [.inr (.inl w28), .inr (.inr (.inl 0))]) rfl mt_8_i247 pp_X2_poured (by decide) rfl rfl rfl (Nat.le_of_ble_eq_true rfl) (Nat.le_of_ble_eq_true rfl) ((k_X2_poured h25 hI).mono (fun r32 h33 p34 => ?_))
          obtain ⟨rfl, x35, rfl, q36⟩ := p34
          show RUN d_X8_with 48 [(0, .inr (.inr (.inl 0))), (1, .inl a0)] [.inl x35, .inr (.inl w28), .inr (.inr (.inl 0))] h25 _
          refine R_callV (v := .inr (.inr (.inl 0))) (As := [.inr (.inl w28), .inl x35]) (rest := []) rfl mt_8_i219 pp_X8_outBy (by decide) rfl rfl rfl (Nat.le_of_ble_eq_true rfl) (Nat.le_of_ble_eq_true rfl) ((k_X8_outBy h25 hI w28 x35).mono (fun r37 h38 p39 => ?_))
          obtain ⟨rfl, x40, rfl, q41⟩ := p39
          show RUN d_X8_with 51 [(0, .inr (.inr (.inl 0))), (1, .inl a0)] [.inl x40] h25 _
          exact R_iret rfl rfl rfl ⟨hI, fr, trivial, _, rfl, by omega⟩
        · exfalso; omega
abbrev q_X9_with (h : PH) (a0 : Int32) : Option PV → PH → Prop := fun r h' => INV h' ∧ FR [96, 103, 104, 105, 106, 107, 108, 109, 110, 111, 112, 113, 114, 115, 116, 117, 118, 119, 120] h h' ∧ (True) ∧ ∃ z : Int32, r = some (.inl z) ∧ (((-2) ≤ z.toInt ∧ z.toInt ≤ 59))
set_option maxHeartbeats 4000000 in
set_option maxRecDepth 100000 in
theorem k_X9_with (h : PH) (hI : INV h) (a0 : Int32) : CALL d_X9_with [.inr (.inr (.inl 96)), .inl a0] h (q_X9_with h a0) := by
  show RUN d_X9_with 0 [(0, .inr (.inr (.inl 96))), (1, .inl a0)] [] h _
  have b1 := i_rng a0
  have fr : FR [96, 103, 104, 105, 106, 107, 108, 109, 110, 111, 112, 113, 114, 115, 116, 117, 118, 119, 120] h h := FR.rf _ _
  refine R_aload_n (k := 0) rfl rfl rfl ?_
  have b2 : (0 : Int) ≤ (h.1 97 0).toInt ∧ (h.1 97 0).toInt ≤ 60 := hI.1 97 0
  have e3 : 0 < (h.1 97 10).toInt → 1 ≤ (h.1 97 0).toInt := hI.2.2.2.2.2.1.2.1
  refine R_callV (v := .inr (.inr (.inl 96))) (As := []) (rest := []) rfl mt_9_i301 pp_X9_isBrigade (by decide) rfl rfl rfl (Nat.le_of_ble_eq_true rfl) (Nat.le_of_ble_eq_true rfl) ((k_X9_isBrigade h hI).mono (fun r4 h5 p6 => ?_))
  obtain ⟨rfl, x7, rfl, q8 | q8⟩ := p6
  · show RUN d_X9_with 4 [(0, .inr (.inr (.inl 96))), (1, .inl a0)] [.inl x7] h _
    refine N_if_eq (a := x7.toInt) 19 rfl rfl rfl (fun c9 => ?_) (fun c9 => ?_)
    · refine R_bipush (-2) rfl rfl ?_
      exact R_iret rfl rfl rfl ⟨hI, fr, trivial, _, rfl, by rw [show ((-2) : Int32).toInt = (-2) from rfl] <;> omega⟩
    · exfalso; omega
  · show RUN d_X9_with 4 [(0, .inr (.inr (.inl 96))), (1, .inl a0)] [.inl x7] h _
    refine N_if_eq (a := x7.toInt) 19 rfl rfl rfl (fun c10 => ?_) (fun c10 => ?_)
    · exfalso; omega
    · refine R_iload_n (k := 1) rfl rfl rfl ?_
      refine N_i2l rfl (fun w11 q12 => ?_)
      refine R_lconst 1 rfl rfl ?_
      refine R_ldc2 (x := 8) rfl kt_9_392 ?_
      have k13 : (1 : Int64).toInt = 1 := by decide
      have k14 : (8 : Int64).toInt = 8 := by decide
      refine R_callS (As := [.inr (.inl w11), .inr (.inl 1), .inr (.inl 8)]) (rest := []) rfl mt_9_i125 (by decide) pp_X9_in (by decide) rfl rfl (Nat.le_of_ble_eq_true rfl) (Nat.le_of_ble_eq_true rfl) ((k_X9_in h hI w11 (1 : Int64) (8 : Int64)).mono (fun r15 h16 p17 => ?_))
      obtain ⟨rfl, x18, rfl, q19 | q19 | q19⟩ := p17
      · show RUN d_X9_with 16 [(0, .inr (.inr (.inl 96))), (1, .inl a0)] [.inl x18] h _
        refine N_if_ne (a := x18.toInt) 22 rfl rfl rfl (fun c20 => ?_) (fun c20 => ?_)
        · exfalso; omega
        · refine R_bipush (-2) rfl rfl ?_
          exact R_iret rfl rfl rfl ⟨hI, fr, trivial, _, rfl, by rw [show ((-2) : Int32).toInt = (-2) from rfl] <;> omega⟩
      · show RUN d_X9_with 16 [(0, .inr (.inr (.inl 96))), (1, .inl a0)] [.inl x18] h _
        refine N_if_ne (a := x18.toInt) 22 rfl rfl rfl (fun c21 => ?_) (fun c21 => ?_)
        · exfalso; omega
        · refine R_bipush (-2) rfl rfl ?_
          exact R_iret rfl rfl rfl ⟨hI, fr, trivial, _, rfl, by rw [show ((-2) : Int32).toInt = (-2) from rfl] <;> omega⟩
      · show RUN d_X9_with 16 [(0, .inr (.inr (.inl 96))), (1, .inl a0)] [.inl x18] h _
        refine N_if_ne (a := x18.toInt) 22 rfl rfl rfl (fun c22 => ?_) (fun c22 => ?_)
        · refine R_aload_n (k := 0) rfl rfl rfl ?_
          refine R_callV (v := .inr (.inr (.inl 96))) (As := []) (rest := []) rfl mt_9_i298 pp_X9_asItIs (by decide) rfl rfl rfl (Nat.le_of_ble_eq_true rfl) (Nat.le_of_ble_eq_true rfl) ((k_X9_asItIs h hI).mono (fun r23 h24 p25 => ?_))
          obtain ⟨hJ, fj, ⟨kp26, -⟩, rfl⟩ := p25
          have f27 := fj
          have fr := fr.trans fj (by decide)
          have hI := hJ
          have s28 : (h24.1 97 10).toInt = (h.1 97 10).toInt := by rw [(f27 97 (by decide)).1]
          have s29 : (h24.1 97 0).toInt = (h.1 97 0).toInt := by rw [(f27 97 (by decide)).1]
          show RUN d_X9_with 26 [(0, .inr (.inr (.inl 96))), (1, .inl a0)] [] h24 _
          refine R_aload_n (k := 0) rfl rfl rfl ?_
          refine R_iload_n (k := 1) rfl rfl rfl ?_
          refine K_putf (j := 19) (lo := (-2147483648)) (hi' := 2147483647) rfl ft_9_256 sh_96 rfl hI (by decide) rfl (i_rng _) fr (by decide) (fun h30 g31 hI fr => ?_)
          have s32 : (h30.1 97 10).toInt = (h24.1 97 10).toInt := by rw [g31, wI_ne _ _ _ (by decide)]
          have s33 : (h30.1 97 0).toInt = (h24.1 97 0).toInt := by rw [g31, wI_ne _ _ _ (by decide)]
          have s34 : (h30.1 96 19).toInt = a0.toInt := by rw [g31, wI_is]
          refine R_aload_n (k := 0) rfl rfl rfl ?_
          refine R_aload_n (k := 0) rfl rfl rfl ?_
          refine R_callV (v := .inr (.inr (.inl 96))) (As := []) (rest := [.inr (.inr (.inl 96))]) rfl mt_9_i129 pp_X9_last (by decide) rfl rfl rfl (Nat.le_of_ble_eq_true rfl) (Nat.le_of_ble_eq_true rfl) ((k_X9_last h30 hI).mono (fun r35 h36 p37 => ?_))
          obtain ⟨rfl, x38, rfl, q39⟩ := p37
          show RUN d_X9_with 36 [(0, .inr (.inr (.inl 96))), (1, .inl a0)] [.inl x38, .inr (.inr (.inl 96))] h30 _
          refine R_callV (v := .inr (.inr (.inl 96))) (As := [.inl x38]) (rest := []) rfl mt_9_i304 pp_X9_goAll (by decide) rfl rfl rfl (Nat.le_of_ble_eq_true rfl) (Nat.le_of_ble_eq_true rfl) ((k_X9_goAll h30 hI x38 (by omega)).mono (fun r40 h41 p42 => ?_))
          obtain ⟨hJ, fj, ⟨kp43, kp44, kp45, kp46, kp47, kp48, kp49, kp50, -⟩, rfl⟩ := p42
          have f51 := fj
          have fr := fr.trans fj (by decide)
          have hI := hJ
          have s52 : (h41.1 97 10).toInt = (h30.1 97 10).toInt := by rw [(f51 97 (by decide)).1]
          have s53 : (h41.1 97 0).toInt = (h30.1 97 0).toInt := by rw [(f51 97 (by decide)).1]
          show RUN d_X9_with 39 [(0, .inr (.inr (.inl 96))), (1, .inl a0)] [] h41 _
          refine R_aload_n (k := 0) rfl rfl rfl ?_
          refine R_aload_n (k := 0) rfl rfl rfl ?_
          refine R_getf_r (j := 1) rfl ft_9_9 sh_96 rfl ?_
          refine R_bipush 7 rfl rfl ?_
          refine R_iald rfl sh_97 (by decide) ?_
          show RUN d_X9_with 47 [(0, .inr (.inr (.inl 96))), (1, .inl a0)] [.inl (h41.1 97 7), .inr (.inr (.inl 96))] h41 _
          refine R_callV (v := .inr (.inr (.inl 96))) (As := [.inl (h41.1 97 7)]) (rest := []) rfl mt_9_i345 pp_X9_goFire (by decide) rfl rfl rfl (Nat.le_of_ble_eq_true rfl) (Nat.le_of_ble_eq_true rfl) ((k_X9_goFire h41 hI (h41.1 97 7)).mono (fun r54 h55 p56 => ?_))
          obtain ⟨hJ, fj, -, x57, rfl, q58⟩ := p56
          have f59 := fj
          have fr := fr.trans fj (by decide)
          have hI := hJ
          have s60 : (h55.1 97 10).toInt = (h41.1 97 10).toInt := by rw [(f59 97 (by decide)).1]
          have s61 : (h55.1 97 0).toInt = (h41.1 97 0).toInt := by rw [(f59 97 (by decide)).1]
          have s62 : (h55.1 96 19).toInt = (h41.1 96 19).toInt := by rw [(f59 96 (by decide)).1]
          have s63 : (h55.1 97 7).toInt = (h41.1 97 7).toInt := by rw [(f59 97 (by decide)).1]
          show RUN d_X9_with 50 [(0, .inr (.inr (.inl 96))), (1, .inl a0)] [.inl x57] h55 _
          exact R_iret rfl rfl rfl ⟨hI, fr, trivial, _, rfl, by omega⟩
        · exfalso; omega
abbrev q_J13_bitCount_95d88 (h : PH) (a0 : Int64) : Option PV → PH → Prop := fun r h' => h = h' ∧ ∃ z : Int32, r = some (.inl z) ∧ ((0 ≤ z.toInt ∧ z.toInt ≤ 127))
set_option maxHeartbeats 4000000 in
set_option maxRecDepth 100000 in
theorem k_J13_bitCount_95d88 (h : PH) (hI : INV h) (a0 : Int64) : CALL d_J13_bitCount_95d88 [.inr (.inl a0)] h (q_J13_bitCount_95d88 h a0) := by
  show RUN d_J13_bitCount_95d88 0 [(0, .inr (.inl a0))] [] h _
  refine R_lload_n (k := 0) rfl rfl rfl ?_
  refine R_lload_n (k := 0) rfl rfl rfl ?_
  refine R_iconst 1 rfl rfl ?_
  refine R_lushr rfl ?_
  refine N_anyL (fun w1 => ?_)
  refine R_ldc2 (x := 6148914691236517205) rfl kt_11_314 ?_
  refine R_land rfl ?_
  refine N_anyL (fun w2 => ?_)
  refine R_lsub rfl ?_
  refine N_anyL (fun w3 => ?_)
  refine R_lstore_n (k := 0) rfl [(0, .inr (.inl w3))] rfl rfl (by decide) ?_
  refine R_lload_n (k := 0) rfl rfl rfl ?_
  refine R_ldc2 (x := 3689348814741910323) rfl kt_11_316 ?_
  refine R_land rfl ?_
  refine N_anyL (fun w4 => ?_)
  refine R_lload_n (k := 0) rfl rfl rfl ?_
  refine R_iconst 2 rfl rfl ?_
  refine R_lushr rfl ?_
  refine N_anyL (fun w5 => ?_)
  refine R_ldc2 (x := 3689348814741910323) rfl kt_11_316 ?_
  refine R_land rfl ?_
  refine N_anyL (fun w6 => ?_)
  refine R_ladd rfl ?_
  refine N_anyL (fun w7 => ?_)
  refine R_lstore_n (k := 0) rfl [(0, .inr (.inl w7))] rfl rfl (by decide) ?_
  refine R_lload_n (k := 0) rfl rfl rfl ?_
  refine R_lload_n (k := 0) rfl rfl rfl ?_
  refine R_iconst 4 rfl rfl ?_
  refine R_lushr rfl ?_
  refine N_anyL (fun w8 => ?_)
  refine R_ladd rfl ?_
  refine N_anyL (fun w9 => ?_)
  refine R_ldc2 (x := 1085102592571150095) rfl kt_11_318 ?_
  refine R_land rfl ?_
  refine N_anyL (fun w10 => ?_)
  refine R_lstore_n (k := 0) rfl [(0, .inr (.inl w10))] rfl rfl (by decide) ?_
  refine R_lload_n (k := 0) rfl rfl rfl ?_
  refine R_lload_n (k := 0) rfl rfl rfl ?_
  refine R_bipush 8 rfl rfl ?_
  refine R_lushr rfl ?_
  refine N_anyL (fun w11 => ?_)
  refine R_ladd rfl ?_
  refine N_anyL (fun w12 => ?_)
  refine R_lstore_n (k := 0) rfl [(0, .inr (.inl w12))] rfl rfl (by decide) ?_
  refine R_lload_n (k := 0) rfl rfl rfl ?_
  refine R_lload_n (k := 0) rfl rfl rfl ?_
  refine R_bipush 16 rfl rfl ?_
  refine R_lushr rfl ?_
  refine N_anyL (fun w13 => ?_)
  refine R_ladd rfl ?_
  refine N_anyL (fun w14 => ?_)
  refine R_lstore_n (k := 0) rfl [(0, .inr (.inl w14))] rfl rfl (by decide) ?_
  refine R_lload_n (k := 0) rfl rfl rfl ?_
  refine R_lload_n (k := 0) rfl rfl rfl ?_
  refine R_bipush 32 rfl rfl ?_
  refine R_lushr rfl ?_
  refine N_anyL (fun w15 => ?_)
  refine R_ladd rfl ?_
  refine N_anyL (fun w16 => ?_)
  refine R_lstore_n (k := 0) rfl [(0, .inr (.inl w16))] rfl rfl (by decide) ?_
  refine R_lload_n (k := 0) rfl rfl rfl ?_
  refine R_l2i rfl ?_
  refine N_any (fun x17 => ?_)
  refine R_bipush 127 rfl rfl ?_
  refine N_iand (b := 127) rfl (by decide) (by omega) (fun x18 q19 => ?_)
  exact R_iret rfl rfl rfl ⟨rfl, _, rfl, by omega⟩
abbrev q_X8_waterNow (h : PH)  : Option PV → PH → Prop := fun r h' => INV h' ∧ FR [0, 70, 71, 72, 73, 74, 75, 76, 77, 78, 79, 80, 81, 82, 83, 84, 85, 86] h h' ∧ (True) ∧ ∃ z : Int32, r = some (.inl z) ∧ ((True))
set_option maxHeartbeats 4000000 in
set_option maxRecDepth 100000 in
theorem k_X8_waterNow (h : PH) (hI : INV h)  : CALL d_X8_waterNow [.inr (.inr (.inl 0))] h (q_X8_waterNow h) := by
  show RUN d_X8_waterNow 0 [(0, .inr (.inr (.inl 0)))] [] h _
  have fr : FR [0, 70, 71, 72, 73, 74, 75, 76, 77, 78, 79, 80, 81, 82, 83, 84, 85, 86] h h := FR.rf _ _
  refine R_aload_n (k := 0) rfl rfl rfl ?_
  refine R_callV (v := .inr (.inr (.inl 0))) (As := []) (rest := []) rfl mt_8_i153 pp_X8_told (by decide) rfl rfl rfl (Nat.le_of_ble_eq_true rfl) (Nat.le_of_ble_eq_true rfl) ((k_X8_told h hI).mono (fun r1 h2 p3 => ?_))
  obtain ⟨hJ, fj, -, rfl⟩ := p3
  have f4 := fj
  have fr := fr.trans fj (by decide)
  have hI := hJ
  show RUN d_X8_waterNow 4 [(0, .inr (.inr (.inl 0)))] [.inr (.inr (.inl 75))] h2 _
  refine R_getf_l (j := 11) rfl ft_8_212 sh_75 rfl ?_
  refine N_anyL (fun w5 => ?_)
  refine R_callS (As := [.inr (.inl w5)]) (rest := []) rfl mt_8_i351 (by decide) pp_J13_bitCount_95d88 (by decide) rfl rfl (Nat.le_of_ble_eq_true rfl) (Nat.le_of_ble_eq_true rfl) ((k_J13_bitCount_95d88 h2 hI w5).mono (fun r6 h7 p8 => ?_))
  obtain ⟨rfl, x9, rfl, q10⟩ := p8
  show RUN d_X8_waterNow 10 [(0, .inr (.inr (.inl 0)))] [.inl x9] h2 _
  refine R_aload_n (k := 0) rfl rfl rfl ?_
  refine R_getf_r (j := 8) rfl ft_8_56 sh_0 rfl ?_
  refine R_getf_i (j := 12) rfl ft_8_216 sh_75 rfl ?_
  have b11 := i_rng (h2.1 75 12)
  refine R_imul rfl ?_
  refine N_any (fun x12 => ?_)
  exact R_iret rfl rfl rfl ⟨hI, fr, trivial, _, rfl, trivial⟩
abbrev q_X8_waterOfLine (h : PH)  : Option PV → PH → Prop := fun r h' => INV h' ∧ FR [70, 74] h h' ∧ ((h'.1 70 5).toInt = (h.1 70 5).toInt ∧ True) ∧ ∃ z : Int32, r = some (.inl z) ∧ ((True))
set_option maxHeartbeats 4000000 in
set_option maxRecDepth 100000 in
theorem k_X8_waterOfLine (h : PH) (hI : INV h)  : CALL d_X8_waterOfLine [.inr (.inr (.inl 0))] h (q_X8_waterOfLine h) := by
  show RUN d_X8_waterOfLine 0 [(0, .inr (.inr (.inl 0)))] [] h _
  have fr : FR [70, 74] h h := FR.rf _ _
  refine R_aload_n (k := 0) rfl rfl rfl ?_
  refine R_callV (v := .inr (.inr (.inl 0))) (As := []) (rest := []) rfl mt_8_i243 pp_X8_playLine (by decide) rfl rfl rfl (Nat.le_of_ble_eq_true rfl) (Nat.le_of_ble_eq_true rfl) ((k_X8_playLine h hI).mono (fun r1 h2 p3 => ?_))
  obtain ⟨hJ, fj, ⟨kp4, -⟩, w5, rfl⟩ := p3
  have f6 := fj
  have fr := fr.trans fj (by decide)
  have hI := hJ
  show RUN d_X8_waterOfLine 4 [(0, .inr (.inr (.inl 0)))] [.inr (.inl w5)] h2 _
  refine R_callS (As := [.inr (.inl w5)]) (rest := []) rfl mt_8_i351 (by decide) pp_J13_bitCount_95d88 (by decide) rfl rfl (Nat.le_of_ble_eq_true rfl) (Nat.le_of_ble_eq_true rfl) ((k_J13_bitCount_95d88 h2 hI w5).mono (fun r7 h8 p9 => ?_))
  obtain ⟨rfl, x10, rfl, q11⟩ := p9
  show RUN d_X8_waterOfLine 7 [(0, .inr (.inr (.inl 0)))] [.inl x10] h2 _
  refine R_aload_n (k := 0) rfl rfl rfl ?_
  refine R_getf_r (j := 7) rfl ft_8_49 sh_0 rfl ?_
  refine R_callV (v := .inr (.inr (.inl 70))) (As := []) (rest := [.inl x10]) rfl mt_8_i247 pp_X2_poured (by decide) rfl rfl rfl (Nat.le_of_ble_eq_true rfl) (Nat.le_of_ble_eq_true rfl) ((k_X2_poured h2 hI).mono (fun r12 h13 p14 => ?_))
  obtain ⟨rfl, x15, rfl, q16⟩ := p14
  show RUN d_X8_waterOfLine 14 [(0, .inr (.inr (.inl 0)))] [.inl x15, .inl x10] h2 _
  have b17 := i_rng x15
  refine R_imul rfl ?_
  refine N_any (fun x18 => ?_)
  exact R_iret rfl rfl rfl ⟨hI, fr, ⟨by omega, trivial⟩, _, rfl, trivial⟩
abbrev q_X8_waterByPace (h : PH) (a0 : Int32) (a1 : Int32) : Option PV → PH → Prop := fun r h' => INV h' ∧ FR [70, 71, 72, 73, 74] h h' ∧ (True) ∧ ∃ z : Int32, r = some (.inl z) ∧ ((True))
set_option maxHeartbeats 4000000 in
set_option maxRecDepth 100000 in
theorem k_X8_waterByPace (h : PH) (hI : INV h) (a0 : Int32) (a1 : Int32) (h0a : 0 ≤ a0.toInt ∧ a0.toInt ≤ 5) (h1a : (-2147483648) ≤ a1.toInt ∧ a1.toInt ≤ 6) : CALL d_X8_waterByPace [.inr (.inr (.inl 0)), .inl a0, .inl a1] h (q_X8_waterByPace h a0 a1) := by
  show RUN d_X8_waterByPace 0 [(0, .inr (.inr (.inl 0))), (1, .inl a0), (2, .inl a1)] [] h _
  have fr : FR [70, 71, 72, 73, 74] h h := FR.rf _ _
  refine R_aload_n (k := 0) rfl rfl rfl ?_
  refine R_callV (v := .inr (.inr (.inl 0))) (As := []) (rest := []) rfl mt_8_i237 pp_X8_lineAsNow (by decide) rfl rfl rfl (Nat.le_of_ble_eq_true rfl) (Nat.le_of_ble_eq_true rfl) ((k_X8_lineAsNow h hI).mono (fun r1 h2 p3 => ?_))
  obtain ⟨hJ, fj, -, rfl⟩ := p3
  have f4 := fj
  have fr := fr.trans fj (by decide)
  have hI := hJ
  show RUN d_X8_waterByPace 4 [(0, .inr (.inr (.inl 0))), (1, .inl a0), (2, .inl a1)] [] h2 _
  refine R_aload_n (k := 0) rfl rfl rfl ?_
  refine R_getf_r (j := 7) rfl ft_8_49 sh_0 rfl ?_
  refine R_getf_r (j := 0) rfl ft_8_433 sh_70 rfl ?_
  refine R_iload_n (k := 1) rfl rfl rfl ?_
  refine R_iload_n (k := 2) rfl rfl rfl ?_
  refine K_iast (a := a0.toInt) (lo := (-2147483648)) (hi' := 2147483647) rfl sh_71 rfl ⟨by omega, by omega⟩ hI (by decide) rfl (i_rng _) fr (by decide) (fun h5 g6 hI fr => ?_)
  refine R_aload_n (k := 0) rfl rfl rfl ?_
  refine R_callV (v := .inr (.inr (.inl 0))) (As := []) (rest := []) rfl mt_8_i268 pp_X8_waterOfLine (by decide) rfl rfl rfl (Nat.le_of_ble_eq_true rfl) (Nat.le_of_ble_eq_true rfl) ((k_X8_waterOfLine h5 hI).mono (fun r7 h8 p9 => ?_))
  obtain ⟨hJ, fj, ⟨kp10, -⟩, x11, rfl, q12⟩ := p9
  have f13 := fj
  have fr := fr.trans fj (by decide)
  have hI := hJ
  show RUN d_X8_waterByPace 18 [(0, .inr (.inr (.inl 0))), (1, .inl a0), (2, .inl a1)] [.inl x11] h8 _
  exact R_iret rfl rfl rfl ⟨hI, fr, trivial, _, rfl, trivial⟩
abbrev q_X8_ease (h : PH) (a0 : Int32) : Option PV → PH → Prop := fun r h' => INV h' ∧ FR [0, 70, 71, 72, 73, 74, 75, 76, 77, 78, 79, 80, 81, 82, 83, 84, 85, 86] h h' ∧ (True) ∧ ∃ z : Int32, r = some (.inl z) ∧ ((True))
set_option maxHeartbeats 4000000 in
set_option maxRecDepth 100000 in
theorem k_X8_ease (h : PH) (hI : INV h) (a0 : Int32) : CALL d_X8_ease [.inr (.inr (.inl 0)), .inl a0] h (q_X8_ease h a0) := by
  show RUN d_X8_ease 0 [(0, .inr (.inr (.inl 0))), (1, .inl a0)] [] h _
  have b1 := i_rng a0
  have fr : FR [0, 70, 71, 72, 73, 74, 75, 76, 77, 78, 79, 80, 81, 82, 83, 84, 85, 86] h h := FR.rf _ _
  refine R_aload_n (k := 0) rfl rfl rfl ?_
  refine R_getf_r (j := 3) rfl ft_8_28 sh_0 rfl ?_
  refine R_iload_n (k := 1) rfl rfl rfl ?_
  have b2 : (0 : Int) ≤ (h.1 17 5).toInt ∧ (h.1 17 5).toInt ≤ 6 := hI.1 17 5
  refine R_callV (v := .inr (.inr (.inl 16))) (As := [.inl a0]) (rest := []) rfl mt_8_i119 pp_X1_hasHand (by decide) rfl rfl rfl (Nat.le_of_ble_eq_true rfl) (Nat.le_of_ble_eq_true rfl) ((k_X1_hasHand h hI a0).mono (fun r3 h4 p5 => ?_))
  obtain ⟨rfl, x6, rfl, q7 | q7 | q7⟩ := p5
  · show RUN d_X8_ease 8 [(0, .inr (.inr (.inl 0))), (1, .inl a0)] [.inl x6] h _
    refine N_if_ne (a := x6.toInt) 14 rfl rfl rfl (fun c8 => ?_) (fun c8 => ?_)
    · exfalso; omega
    · refine R_bipush (-2) rfl rfl ?_
      exact R_iret rfl rfl rfl ⟨hI, fr, trivial, _, rfl, trivial⟩
  · show RUN d_X8_ease 8 [(0, .inr (.inr (.inl 0))), (1, .inl a0)] [.inl x6] h _
    refine N_if_ne (a := x6.toInt) 14 rfl rfl rfl (fun c9 => ?_) (fun c9 => ?_)
    · exfalso; omega
    · refine R_bipush (-2) rfl rfl ?_
      exact R_iret rfl rfl rfl ⟨hI, fr, trivial, _, rfl, trivial⟩
  · show RUN d_X8_ease 8 [(0, .inr (.inr (.inl 0))), (1, .inl a0)] [.inl x6] h _
    refine N_if_ne (a := x6.toInt) 14 rfl rfl rfl (fun c10 => ?_) (fun c10 => ?_)
    · refine R_aload_n (k := 0) rfl rfl rfl ?_
      refine R_callV (v := .inr (.inr (.inl 0))) (As := []) (rest := []) rfl mt_8_i249 pp_X8_waterNow (by decide) rfl rfl rfl (Nat.le_of_ble_eq_true rfl) (Nat.le_of_ble_eq_true rfl) ((k_X8_waterNow h hI).mono (fun r11 h12 p13 => ?_))
      obtain ⟨hJ, fj, -, x14, rfl, q15⟩ := p13
      have f16 := fj
      have fr := fr.trans fj (by decide)
      have hI := hJ
      have s17 : (h12.1 17 5).toInt = (h.1 17 5).toInt := by rw [(f16 17 (by decide)).1]
      show RUN d_X8_ease 18 [(0, .inr (.inr (.inl 0))), (1, .inl a0)] [.inl x14] h12 _
      refine R_istore_n (k := 2) rfl [(2, .inl x14), (0, .inr (.inr (.inl 0))), (1, .inl a0)] rfl rfl (by decide) ?_
      refine R_aload_n (k := 0) rfl rfl rfl ?_
      refine R_getf_r (j := 3) rfl ft_8_28 sh_0 rfl ?_
      refine R_getf_r (j := 2) rfl ft_8_125 sh_16 rfl ?_
      refine R_iload_n (k := 1) rfl rfl rfl ?_
      refine R_iald rfl sh_19 ⟨by omega, by omega⟩ ?_
      refine N_any (fun x18 => ?_)
      refine R_istore_n (k := 3) rfl [(3, .inl x18), (2, .inl x14), (0, .inr (.inr (.inl 0))), (1, .inl a0)] rfl rfl (by decide) ?_
      refine R_bipush 6 rfl rfl ?_
      refine R_istore (k := 4) [(4, .inl 6), (3, .inl x18), (2, .inl x14), (0, .inr (.inr (.inl 0))), (1, .inl a0)] rfl rfl (by decide) ?_
      have lp20 : ∀ (n19 : Nat) (h21 : PH) (x23 : Int32), INV h21 → FR [0, 70, 71, 72, 73, 74, 75, 76, 77, 78, 79, 80, 81, 82, 83, 84, 85, 86] h h21 → FR [70, 71, 72, 73, 74] h12 h21 → x23.toInt ≤ 6 → (x23.toInt - (-2147483648)).toNat < n19 → RUN d_X8_ease 33 [(4, .inl x23), (3, .inl x18), (2, .inl x14), (0, .inr (.inr (.inl 0))), (1, .inl a0)] [] h21 (q_X8_ease h a0) := by
        intro n19
        induction n19 with
        | zero => intro h21 x23 m25 m26 m27 m28 hz; exact absurd hz (Nat.not_lt_zero _)
        | succ n19 ih24 =>
          intro h21 x23 hI fr fl22 m28 hz
          have s29 : (h21.1 17 5).toInt = (h12.1 17 5).toInt := by rw [(fl22 17 (by decide)).1]
          refine R_iload (k := 4) rfl rfl ?_
          refine R_iload_n (k := 3) rfl rfl rfl ?_
          refine N_icmp_le (a := x23.toInt) (b := x18.toInt) 59 rfl rfl rfl rfl (fun c30 => ?_) (fun c30 => ?_)
          · refine R_iload_n (k := 3) rfl rfl rfl ?_
            exact R_iret rfl rfl rfl ⟨hI, fr, trivial, _, rfl, trivial⟩
          · refine R_aload_n (k := 0) rfl rfl rfl ?_
            refine R_iload_n (k := 1) rfl rfl rfl ?_
            refine R_iload (k := 4) rfl rfl ?_
            have b31 := i_rng x23
            refine R_callV (v := .inr (.inr (.inl 0))) (As := [.inl a0, .inl x23]) (rest := []) rfl mt_8_i252 pp_X8_waterByPace (by decide) rfl rfl rfl (Nat.le_of_ble_eq_true rfl) (Nat.le_of_ble_eq_true rfl) ((k_X8_waterByPace h21 hI a0 x23 (by omega) (by omega)).mono (fun r32 h33 p34 => ?_))
            obtain ⟨hJ, fj, -, x35, rfl, q36⟩ := p34
            have f37 := fj
            have fr := fr.trans fj (by decide)
            have hI := hJ
            have fl22 : FR [70, 71, 72, 73, 74] h12 h33 := fl22.trans fj (by decide)
            have s38 : (h33.1 17 5).toInt = (h21.1 17 5).toInt := by rw [(f37 17 (by decide)).1]
            show RUN d_X8_ease 46 [(4, .inl x23), (3, .inl x18), (2, .inl x14), (0, .inr (.inr (.inl 0))), (1, .inl a0)] [.inl x35] h33 _
            refine R_iload_n (k := 2) rfl rfl rfl ?_
            refine N_icmp_lt (a := x35.toInt) (b := x14.toInt) 53 rfl rfl rfl rfl (fun c39 => ?_) (fun c39 => ?_)
            · have b40 := i_rng x23
              have b42 := i_rng a0
              have b43 := i_rng x18
              have b44 := i_rng x35
              have b45 := i_rng x14
              refine N_iinc (a := x23.toInt) (c := (-1)) (fun w => [(4, .inl w), (3, .inl x18), (2, .inl x14), (0, .inr (.inr (.inl 0))), (1, .inl a0)]) rfl rfl (fun _ => rfl) (by decide) rfl (by decide) (by omega) (fun x41 q46 => ?_)
              refine R_goto 33 rfl rfl ?_
              have b47 := i_rng x41
              exact RUN_weak (psub_cons rfl (psub_cons rfl (psub_cons rfl (psub_cons rfl (psub_cons rfl (psub_nil _)))))) (ih24 h33 x41 hI fr fl22 (by omega) (by omega))
            · refine R_iload (k := 4) rfl rfl ?_
              exact R_iret rfl rfl rfl ⟨hI, fr, trivial, _, rfl, trivial⟩
      exact lp20 _ h12 (6 : Int32) hI fr (FR.rf _ _) (by decide) (Nat.lt_succ_self _)
    · exfalso; omega
abbrev q_X9_waterNow (h : PH)  : Option PV → PH → Prop := fun r h' => INV h' ∧ FR [96, 107, 108, 109, 110, 111, 112, 113, 114, 115, 116, 117, 118, 119] h h' ∧ ((h'.1 96 18).toInt = (h.1 96 18).toInt ∧ (h'.1 96 19).toInt = (h.1 96 19).toInt ∧ (h'.1 96 46).toInt = (h.1 96 46).toInt ∧ (h'.1 96 44).toInt = (h.1 96 44).toInt ∧ (h'.1 96 47).toInt = (h.1 96 47).toInt ∧ (h'.1 96 48).toInt = (h.1 96 48).toInt ∧ True) ∧ ∃ z : Int32, r = some (.inl z) ∧ ((True))
set_option maxHeartbeats 4000000 in
set_option maxRecDepth 100000 in
theorem k_X9_waterNow (h : PH) (hI : INV h) (p97_0 : 1 ≤ (h.1 97 0).toInt ∧ (h.1 97 0).toInt ≤ 60) : CALL d_X9_waterNow [.inr (.inr (.inl 96))] h (q_X9_waterNow h) := by
  show RUN d_X9_waterNow 0 [(0, .inr (.inr (.inl 96)))] [] h _
  have fr : FR [96, 107, 108, 109, 110, 111, 112, 113, 114, 115, 116, 117, 118, 119] h h := FR.rf _ _
  have b1 : (0 : Int) ≤ (h.1 97 0).toInt ∧ (h.1 97 0).toInt ≤ 60 := hI.1 97 0
  have b2 : (0 : Int) ≤ (h.1 96 18).toInt ∧ (h.1 96 18).toInt ≤ 6 := hI.1 96 18
  refine R_aload_n (k := 0) rfl rfl rfl ?_
  refine R_aload_n (k := 0) rfl rfl rfl ?_
  refine R_callV (v := .inr (.inr (.inl 96))) (As := []) (rest := [.inr (.inr (.inl 96))]) rfl mt_9_i129 pp_X9_last (by decide) rfl rfl rfl (Nat.le_of_ble_eq_true rfl) (Nat.le_of_ble_eq_true rfl) ((k_X9_last h hI).mono (fun r3 h4 p5 => ?_))
  obtain ⟨rfl, x6, rfl, q7⟩ := p5
  show RUN d_X9_waterNow 5 [(0, .inr (.inr (.inl 96)))] [.inl x6, .inr (.inr (.inl 96))] h _
  refine R_callV (v := .inr (.inr (.inl 96))) (As := [.inl x6]) (rest := []) rfl mt_9_i304 pp_X9_goAll (by decide) rfl rfl rfl (Nat.le_of_ble_eq_true rfl) (Nat.le_of_ble_eq_true rfl) ((k_X9_goAll h hI x6 (by omega)).mono (fun r8 h9 p10 => ?_))
  obtain ⟨hJ, fj, ⟨kp11, kp12, kp13, kp14, kp15, kp16, kp17, kp18, -⟩, rfl⟩ := p10
  have f19 := fj
  have fr := fr.trans fj (by decide)
  have hI := hJ
  have s20 : (h9.1 97 0).toInt = (h.1 97 0).toInt := by rw [(f19 97 (by decide)).1]
  show RUN d_X9_waterNow 8 [(0, .inr (.inr (.inl 96)))] [] h9 _
  refine R_aload_n (k := 0) rfl rfl rfl ?_
  refine R_getf_r (j := 29) rfl ft_9_67 sh_96 rfl ?_
  refine R_aload_n (k := 0) rfl rfl rfl ?_
  refine R_callV (v := .inr (.inr (.inl 96))) (As := []) (rest := [.inr (.inr (.inl 114))]) rfl mt_9_i129 pp_X9_last (by decide) rfl rfl rfl (Nat.le_of_ble_eq_true rfl) (Nat.le_of_ble_eq_true rfl) ((k_X9_last h9 hI).mono (fun r21 h22 p23 => ?_))
  obtain ⟨rfl, x24, rfl, q25⟩ := p23
  show RUN d_X9_waterNow 16 [(0, .inr (.inr (.inl 96)))] [.inl x24, .inr (.inr (.inl 114))] h9 _
  refine R_iald rfl sh_114 ⟨by omega, by omega⟩ ?_
  refine N_any (fun x26 => ?_)
  exact R_iret rfl rfl rfl ⟨hI, fr, ⟨by omega, by omega, by omega, by omega, by omega, by omega, trivial⟩, _, rfl, trivial⟩
abbrev q_X9_ease (h : PH) (a0 : Int32) : Option PV → PH → Prop := fun r h' => INV h' ∧ FR [96, 103, 104, 105, 106, 107, 108, 109, 110, 111, 112, 113, 114, 115, 116, 117, 118, 119] h h' ∧ (True) ∧ ∃ z : Int32, r = some (.inl z) ∧ ((True))
set_option maxHeartbeats 4000000 in
set_option maxRecDepth 100000 in
theorem k_X9_ease (h : PH) (hI : INV h) (a0 : Int32) : CALL d_X9_ease [.inr (.inr (.inl 96)), .inl a0] h (q_X9_ease h a0) := by
  show RUN d_X9_ease 0 [(0, .inr (.inr (.inl 96))), (1, .inl a0)] [] h _
  have b1 := i_rng a0
  have fr : FR [96, 103, 104, 105, 106, 107, 108, 109, 110, 111, 112, 113, 114, 115, 116, 117, 118, 119] h h := FR.rf _ _
  refine R_aload_n (k := 0) rfl rfl rfl ?_
  refine R_iload_n (k := 1) rfl rfl rfl ?_
  have b2 : (0 : Int) ≤ (h.1 97 0).toInt ∧ (h.1 97 0).toInt ≤ 60 := hI.1 97 0
  have e3 : 0 < (h.1 97 10).toInt → 1 ≤ (h.1 97 0).toInt := hI.2.2.2.2.2.1.2.1
  have b4 : (0 : Int) ≤ (h.1 97 5).toInt ∧ (h.1 97 5).toInt ≤ 6 := hI.1 97 5
  have e5 : 0 < (h.1 97 5).toInt → 1 ≤ (h.1 97 0).toInt := hI.2.2.2.2.2.1.2.2
  refine R_callV (v := .inr (.inr (.inl 96))) (As := [.inl a0]) (rest := []) rfl mt_9_i327 pp_X9_asksHand (by decide) rfl rfl rfl (Nat.le_of_ble_eq_true rfl) (Nat.le_of_ble_eq_true rfl) ((k_X9_asksHand h hI a0).mono (fun r6 h7 p8 => ?_))
  obtain ⟨hJ, fj, -, x9, rfl, q10 | q10 | q10 | q10⟩ := p8
  · have f11 := fj
    have fr := fr.trans fj (by decide)
    have hI := hJ
    have s12 : (h7.1 97 10).toInt = (h.1 97 10).toInt := by rw [(f11 97 (by decide)).1]
    have s13 : (h7.1 97 0).toInt = (h.1 97 0).toInt := by rw [(f11 97 (by decide)).1]
    have s14 : (h7.1 97 5).toInt = (h.1 97 5).toInt := by rw [(f11 97 (by decide)).1]
    show RUN d_X9_ease 5 [(0, .inr (.inr (.inl 96))), (1, .inl a0)] [.inl x9] h7 _
    refine N_if_ne (a := x9.toInt) 11 rfl rfl rfl (fun c15 => ?_) (fun c15 => ?_)
    · exfalso; omega
    · refine R_bipush (-2) rfl rfl ?_
      exact R_iret rfl rfl rfl ⟨hI, fr, trivial, _, rfl, trivial⟩
  · have f16 := fj
    have fr := fr.trans fj (by decide)
    have hI := hJ
    have s17 : (h7.1 97 10).toInt = (h.1 97 10).toInt := by rw [(f16 97 (by decide)).1]
    have s18 : (h7.1 97 0).toInt = (h.1 97 0).toInt := by rw [(f16 97 (by decide)).1]
    have s19 : (h7.1 97 5).toInt = (h.1 97 5).toInt := by rw [(f16 97 (by decide)).1]
    show RUN d_X9_ease 5 [(0, .inr (.inr (.inl 96))), (1, .inl a0)] [.inl x9] h7 _
    refine N_if_ne (a := x9.toInt) 11 rfl rfl rfl (fun c20 => ?_) (fun c20 => ?_)
    · exfalso; omega
    · refine R_bipush (-2) rfl rfl ?_
      exact R_iret rfl rfl rfl ⟨hI, fr, trivial, _, rfl, trivial⟩
  · have f21 := fj
    have fr := fr.trans fj (by decide)
    have hI := hJ
    have s22 : (h7.1 97 10).toInt = (h.1 97 10).toInt := by rw [(f21 97 (by decide)).1]
    have s23 : (h7.1 97 0).toInt = (h.1 97 0).toInt := by rw [(f21 97 (by decide)).1]
    have s24 : (h7.1 97 5).toInt = (h.1 97 5).toInt := by rw [(f21 97 (by decide)).1]
    show RUN d_X9_ease 5 [(0, .inr (.inr (.inl 96))), (1, .inl a0)] [.inl x9] h7 _
    refine N_if_ne (a := x9.toInt) 11 rfl rfl rfl (fun c25 => ?_) (fun c25 => ?_)
    · exfalso; omega
    · refine R_bipush (-2) rfl rfl ?_
      exact R_iret rfl rfl rfl ⟨hI, fr, trivial, _, rfl, trivial⟩
  · have f26 := fj
    have fr := fr.trans fj (by decide)
    have hI := hJ
    have s27 : (h7.1 97 10).toInt = (h.1 97 10).toInt := by rw [(f26 97 (by decide)).1]
    have s28 : (h7.1 97 0).toInt = (h.1 97 0).toInt := by rw [(f26 97 (by decide)).1]
    have s29 : (h7.1 97 5).toInt = (h.1 97 5).toInt := by rw [(f26 97 (by decide)).1]
    show RUN d_X9_ease 5 [(0, .inr (.inr (.inl 96))), (1, .inl a0)] [.inl x9] h7 _
    refine N_if_ne (a := x9.toInt) 11 rfl rfl rfl (fun c30 => ?_) (fun c30 => ?_)
    · refine R_aload_n (k := 0) rfl rfl rfl ?_
      refine R_getf_r (j := 29) rfl ft_9_67 sh_96 rfl ?_
      refine R_aload_n (k := 0) rfl rfl rfl ?_
      refine R_callV (v := .inr (.inr (.inl 96))) (As := []) (rest := [.inr (.inr (.inl 114))]) rfl mt_9_i129 pp_X9_last (by decide) rfl rfl rfl (Nat.le_of_ble_eq_true rfl) (Nat.le_of_ble_eq_true rfl) ((k_X9_last h7 hI).mono (fun r31 h32 p33 => ?_))
      obtain ⟨rfl, x34, rfl, q35⟩ := p33
      show RUN d_X9_ease 19 [(0, .inr (.inr (.inl 96))), (1, .inl a0)] [.inl x34, .inr (.inr (.inl 114))] h7 _
      refine R_iald rfl sh_114 ⟨by omega, by omega⟩ ?_
      refine N_any (fun x36 => ?_)
      refine R_istore_n (k := 2) rfl [(2, .inl x36), (0, .inr (.inr (.inl 96))), (1, .inl a0)] rfl rfl (by decide) ?_
      refine R_aload_n (k := 0) rfl rfl rfl ?_
      refine R_getf_r (j := 15) rfl ft_9_34 sh_96 rfl ?_
      refine R_iload_n (k := 1) rfl rfl rfl ?_
      refine R_iald rfl sh_103 ⟨by omega, by omega⟩ ?_
      refine N_any (fun x37 => ?_)
      refine R_istore_n (k := 3) rfl [(3, .inl x37), (2, .inl x36), (0, .inr (.inr (.inl 96))), (1, .inl a0)] rfl rfl (by decide) ?_
      refine R_iload_n (k := 3) rfl rfl rfl ?_
      refine R_istore (k := 4) [(4, .inl x37), (3, .inl x37), (2, .inl x36), (0, .inr (.inr (.inl 96))), (1, .inl a0)] rfl rfl (by decide) ?_
      refine R_iload_n (k := 3) rfl rfl rfl ?_
      refine R_istore (k := 5) [(5, .inl x37), (4, .inl x37), (3, .inl x37), (2, .inl x36), (0, .inr (.inr (.inl 96))), (1, .inl a0)] rfl rfl (by decide) ?_
      have lp39 : ∀ (n38 : Nat) (h40 : PH) (x42 : Int32) (x43 : Int32), INV h40 → FR [96, 103, 104, 105, 106, 107, 108, 109, 110, 111, 112, 113, 114, 115, 116, 117, 118, 119] h h40 → FR [96, 103, 107, 108, 109, 110, 111, 112, 113, 114, 115, 116, 117, 118, 119] h7 h40 → x42.toInt ≤ x43.toInt + 0 → x37.toInt ≤ x42.toInt + 0 → x37.toInt ≤ x43.toInt + 0 → (2147483647 - x43.toInt).toNat < n38 → RUN d_X9_ease 34 [(5, .inl x43), (4, .inl x42), (3, .inl x37), (2, .inl x36), (0, .inr (.inr (.inl 96))), (1, .inl a0)] [] h40 (q_X9_ease h a0) := by
        intro n38
        induction n38 with
        | zero => intro h40 x42 x43 m45 m46 m47 m48 m49 m50 hz; exact absurd hz (Nat.not_lt_zero _)
        | succ n38 ih44 =>
          intro h40 x42 x43 hI fr fl41 m48 m49 m50 hz
          have s51 : (h40.1 97 10).toInt = (h7.1 97 10).toInt := by rw [(fl41 97 (by decide)).1]
          have s52 : (h40.1 97 0).toInt = (h7.1 97 0).toInt := by rw [(fl41 97 (by decide)).1]
          have s53 : (h40.1 97 5).toInt = (h7.1 97 5).toInt := by rw [(fl41 97 (by decide)).1]
          refine R_iload (k := 5) rfl rfl ?_
          refine R_bipush 6 rfl rfl ?_
          refine N_icmp_gt (a := x43.toInt) (b := 6) 72 rfl rfl rfl (by decide) (fun c54 => ?_) (fun c54 => ?_)
          · refine R_iload (k := 4) rfl rfl ?_
            exact R_iret rfl rfl rfl ⟨hI, fr, trivial, _, rfl, trivial⟩
          · refine R_aload_n (k := 0) rfl rfl rfl ?_
            refine R_getf_r (j := 15) rfl ft_9_34 sh_96 rfl ?_
            refine R_iload_n (k := 1) rfl rfl rfl ?_
            refine R_iload (k := 5) rfl rfl ?_
            refine K_iast (a := a0.toInt) (lo := (-2147483648)) (hi' := 2147483647) rfl sh_103 rfl ⟨by omega, by omega⟩ hI (by decide) rfl (i_rng _) fr (by decide) (fun h55 g56 hI fr => ?_)
            have fl41 : FR [96, 103, 107, 108, 109, 110, 111, 112, 113, 114, 115, 116, 117, 118, 119] h7 h55 := by rw [g56]; exact FR_wI _ _ fl41 (by decide)
            have s57 : (h55.1 97 10).toInt = (h40.1 97 10).toInt := by rw [g56, wI_ne _ _ _ (by decide)]
            have s58 : (h55.1 97 0).toInt = (h40.1 97 0).toInt := by rw [g56, wI_ne _ _ _ (by decide)]
            have s59 : (h55.1 97 5).toInt = (h40.1 97 5).toInt := by rw [g56, wI_ne _ _ _ (by decide)]
            refine R_aload_n (k := 0) rfl rfl rfl ?_
            refine R_callV (v := .inr (.inr (.inl 96))) (As := []) (rest := []) rfl mt_9_i389 pp_X9_waterNow (by decide) rfl rfl rfl (Nat.le_of_ble_eq_true rfl) (Nat.le_of_ble_eq_true rfl) ((k_X9_waterNow h55 hI (by omega)).mono (fun r60 h61 p62 => ?_))
            obtain ⟨hJ, fj, ⟨kp63, kp64, kp65, kp66, kp67, kp68, -⟩, x69, rfl, q70⟩ := p62
            have f71 := fj
            have fr := fr.trans fj (by decide)
            have hI := hJ
            have fl41 : FR [96, 103, 107, 108, 109, 110, 111, 112, 113, 114, 115, 116, 117, 118, 119] h7 h61 := fl41.trans fj (by decide)
            have s72 : (h61.1 97 10).toInt = (h55.1 97 10).toInt := by rw [(f71 97 (by decide)).1]
            have s73 : (h61.1 97 0).toInt = (h55.1 97 0).toInt := by rw [(f71 97 (by decide)).1]
            have s74 : (h61.1 97 5).toInt = (h55.1 97 5).toInt := by rw [(f71 97 (by decide)).1]
            show RUN d_X9_ease 53 [(5, .inl x43), (4, .inl x42), (3, .inl x37), (2, .inl x36), (0, .inr (.inr (.inl 96))), (1, .inl a0)] [.inl x69] h61 _
            refine R_iload_n (k := 2) rfl rfl rfl ?_
            refine N_icmp_lt (a := x69.toInt) (b := x36.toInt) 62 rfl rfl rfl rfl (fun c75 => ?_) (fun c75 => ?_)
            · refine R_iload (k := 4) rfl rfl ?_
              refine R_istore (k := 4) [(4, .inl x42), (5, .inl x43), (3, .inl x37), (2, .inl x36), (0, .inr (.inr (.inl 96))), (1, .inl a0)] rfl rfl (by decide) ?_
              have b76 := i_rng x43
              have b78 := i_rng a0
              have b79 := i_rng x42
              have b80 := i_rng x37
              have b81 := i_rng x42
              have b82 := i_rng x37
              have b83 := i_rng x69
              have b84 := i_rng x36
              refine N_iinc (a := x43.toInt) (c := 1) (fun w => [(5, .inl w), (4, .inl x42), (3, .inl x37), (2, .inl x36), (0, .inr (.inr (.inl 96))), (1, .inl a0)]) rfl rfl (fun _ => rfl) (by decide) rfl (by decide) (by omega) (fun x77 q85 => ?_)
              refine R_goto 34 rfl rfl ?_
              exact RUN_weak (psub_cons rfl (psub_cons rfl (psub_cons rfl (psub_cons rfl (psub_cons rfl (psub_cons rfl (psub_nil _))))))) (ih44 h61 x42 x77 hI fr fl41 (by omega) (by omega) (by omega) (by omega))
            · refine R_iload (k := 5) rfl rfl ?_
              refine R_goto 64 rfl rfl ?_
              refine R_istore (k := 4) [(4, .inl x43), (5, .inl x43), (3, .inl x37), (2, .inl x36), (0, .inr (.inr (.inl 96))), (1, .inl a0)] rfl rfl (by decide) ?_
              have b86 := i_rng x43
              have b88 := i_rng a0
              have b89 := i_rng x42
              have b90 := i_rng x37
              have b91 := i_rng x42
              have b92 := i_rng x37
              have b93 := i_rng x36
              have b94 := i_rng x69
              refine N_iinc (a := x43.toInt) (c := 1) (fun w => [(5, .inl w), (4, .inl x43), (3, .inl x37), (2, .inl x36), (0, .inr (.inr (.inl 96))), (1, .inl a0)]) rfl rfl (fun _ => rfl) (by decide) rfl (by decide) (by omega) (fun x87 q95 => ?_)
              refine R_goto 34 rfl rfl ?_
              exact RUN_weak (psub_cons rfl (psub_cons rfl (psub_cons rfl (psub_cons rfl (psub_cons rfl (psub_cons rfl (psub_nil _))))))) (ih44 h61 x43 x87 hI fr fl41 (by omega) (by omega) (by omega) (by omega))
      exact lp39 _ h7 x37 x37 hI fr (FR.rf _ _) (by omega) (by omega) (by omega) (Nat.lt_succ_self _)
    · exfalso; omega
abbrev q_X1_allHands (h : PH)  : Option PV → PH → Prop := fun r h' => h = h' ∧ ∃ z : Int32, r = some (.inl z) ∧ ((0 ≤ z.toInt ∧ z.toInt ≤ 63))
set_option maxHeartbeats 4000000 in
set_option maxRecDepth 100000 in
theorem k_X1_allHands (h : PH) (hI : INV h)  : CALL d_X1_allHands [.inr (.inr (.inl 16))] h (q_X1_allHands h) := by
  show RUN d_X1_allHands 0 [(0, .inr (.inr (.inl 16)))] [] h _
  refine R_iconst 1 rfl rfl ?_
  refine R_aload_n (k := 0) rfl rfl rfl ?_
  refine R_getf_r (j := 0) rfl ft_1_9 sh_16 rfl ?_
  refine R_iconst 5 rfl rfl ?_
  refine R_iald rfl sh_17 (by decide) ?_
  have b1 : (0 : Int) ≤ (h.1 17 5).toInt ∧ (h.1 17 5).toInt ≤ 6 := hI.1 17 5
  show RUN d_X1_allHands 7 [(0, .inr (.inr (.inl 16)))] [.inl (h.1 17 5), .inl 1] h _
  refine N_ishl1 (b := (h.1 17 5).toInt) rfl rfl (by omega) (fun x2 q3 => ?_)
  refine R_iconst 1 rfl rfl ?_
  refine N_isub (a := x2.toInt) (b := 1) rfl rfl (by decide) (by omega) (fun x4 q5 => ?_)
  exact R_iret rfl rfl rfl ⟨rfl, _, rfl, by omega⟩
abbrev q_X8_waterOfSet (h : PH) (a0 : Int32) : Option PV → PH → Prop := fun r h' => INV h' ∧ FR [70, 71, 72, 73, 74] h h' ∧ (True) ∧ ∃ z : Int32, r = some (.inl z) ∧ ((True))
set_option maxHeartbeats 4000000 in
set_option maxRecDepth 100000 in
theorem k_X8_waterOfSet (h : PH) (hI : INV h) (a0 : Int32) : CALL d_X8_waterOfSet [.inr (.inr (.inl 0)), .inl a0] h (q_X8_waterOfSet h a0) := by
  show RUN d_X8_waterOfSet 0 [(0, .inr (.inr (.inl 0))), (1, .inl a0)] [] h _
  have b1 := i_rng a0
  have fr : FR [70, 71, 72, 73, 74] h h := FR.rf _ _
  refine R_aload_n (k := 0) rfl rfl rfl ?_
  refine R_getf_r (j := 7) rfl ft_8_49 sh_0 rfl ?_
  refine R_aload_n (k := 0) rfl rfl rfl ?_
  refine R_getf_r (j := 3) rfl ft_8_28 sh_0 rfl ?_
  refine R_callV (v := .inr (.inr (.inl 70))) (As := [.inr (.inr (.inl 16))]) (rest := []) rfl mt_8_i426 pp_X2_clearFor (by decide) rfl rfl rfl (Nat.le_of_ble_eq_true rfl) (Nat.le_of_ble_eq_true rfl) ((k_X2_clearFor h hI).mono (fun r2 h3 p4 => ?_))
  obtain ⟨hJ, fj, -, rfl⟩ := p4
  have f5 := fj
  have fr := fr.trans fj (by decide)
  have hI := hJ
  show RUN d_X8_waterOfSet 11 [(0, .inr (.inr (.inl 0))), (1, .inl a0)] [] h3 _
  refine R_iconst 0 rfl rfl ?_
  refine R_istore_n (k := 2) rfl [(2, .inl 0), (0, .inr (.inr (.inl 0))), (1, .inl a0)] rfl rfl (by decide) ?_
  have lp7 : ∀ (n6 : Nat) (h8 : PH) (x10 : Int32), INV h8 → FR [70, 71, 72, 73, 74] h h8 → FR [70, 71, 72, 73, 74] h3 h8 → 0 ≤ x10.toInt ∧ x10.toInt ≤ 6 → (6 - x10.toInt).toNat < n6 → RUN d_X8_waterOfSet 13 [(2, .inl x10), (0, .inr (.inr (.inl 0))), (1, .inl a0)] [] h8 (q_X8_waterOfSet h a0) := by
    intro n6
    induction n6 with
    | zero => intro h8 x10 m12 m13 m14 m15 hz; exact absurd hz (Nat.not_lt_zero _)
    | succ n6 ih11 =>
      intro h8 x10 hI fr fl9 m15 hz
      refine R_iload_n (k := 2) rfl rfl rfl ?_
      refine R_aload_n (k := 0) rfl rfl rfl ?_
      refine R_getf_r (j := 3) rfl ft_8_28 sh_0 rfl ?_
      refine R_getf_r (j := 0) rfl ft_8_109 sh_16 rfl ?_
      refine R_iconst 5 rfl rfl ?_
      refine R_iald rfl sh_17 (by decide) ?_
      have b16 : (0 : Int) ≤ (h8.1 17 5).toInt ∧ (h8.1 17 5).toInt ≤ 6 := hI.1 17 5
      show RUN d_X8_waterOfSet 23 [(2, .inl x10), (0, .inr (.inr (.inl 0))), (1, .inl a0)] [.inl (h8.1 17 5), .inl x10] h8 _
      refine N_icmp_ge (a := x10.toInt) (b := (h8.1 17 5).toInt) 53 rfl rfl rfl rfl (fun c17 => ?_) (fun c17 => ?_)
      · refine R_aload_n (k := 0) rfl rfl rfl ?_
        refine R_callV (v := .inr (.inr (.inl 0))) (As := []) (rest := []) rfl mt_8_i268 pp_X8_waterOfLine (by decide) rfl rfl rfl (Nat.le_of_ble_eq_true rfl) (Nat.le_of_ble_eq_true rfl) ((k_X8_waterOfLine h8 hI).mono (fun r18 h19 p20 => ?_))
        obtain ⟨hJ, fj, ⟨kp21, -⟩, x22, rfl, q23⟩ := p20
        have f24 := fj
        have fr := fr.trans fj (by decide)
        have hI := hJ
        have fl9 : FR [70, 71, 72, 73, 74] h3 h19 := fl9.trans fj (by decide)
        have s25 : (h19.1 17 5).toInt = (h8.1 17 5).toInt := by rw [(f24 17 (by decide)).1]
        show RUN d_X8_waterOfSet 57 [(2, .inl x10), (0, .inr (.inr (.inl 0))), (1, .inl a0)] [.inl x22] h19 _
        exact R_iret rfl rfl rfl ⟨hI, fr, trivial, _, rfl, trivial⟩
      · refine R_iload_n (k := 1) rfl rfl rfl ?_
        refine N_i2l rfl (fun w26 q27 => ?_)
        refine R_iload_n (k := 2) rfl rfl rfl ?_
        refine R_callS (As := [.inr (.inl w26), .inl x10]) (rest := []) rfl mt_8_i160 (by decide) pp_X8_hasBit (by decide) rfl rfl (Nat.le_of_ble_eq_true rfl) (Nat.le_of_ble_eq_true rfl) ((k_X8_hasBit h8 hI w26 x10).mono (fun r28 h29 p30 => ?_))
        obtain ⟨rfl, x31, rfl, q32 | q32⟩ := p30
        · show RUN d_X8_waterOfSet 32 [(2, .inl x10), (0, .inr (.inr (.inl 0))), (1, .inl a0)] [.inl x31] h8 _
          refine N_if_eq (a := x31.toInt) 47 rfl rfl rfl (fun c33 => ?_) (fun c33 => ?_)
          · refine N_iinc (a := x10.toInt) (c := 1) (fun w => [(2, .inl w), (0, .inr (.inr (.inl 0))), (1, .inl a0)]) rfl rfl (fun _ => rfl) (by decide) rfl (by decide) (by omega) (fun x34 q35 => ?_)
            refine R_goto 13 rfl rfl ?_
            exact RUN_weak (psub_cons rfl (psub_cons rfl (psub_cons rfl (psub_nil _)))) (ih11 h8 x34 hI fr fl9 (by omega) (by omega))
          · exfalso; omega
        · show RUN d_X8_waterOfSet 32 [(2, .inl x10), (0, .inr (.inr (.inl 0))), (1, .inl a0)] [.inl x31] h8 _
          refine N_if_eq (a := x31.toInt) 47 rfl rfl rfl (fun c36 => ?_) (fun c36 => ?_)
          · exfalso; omega
          · refine R_aload_n (k := 0) rfl rfl rfl ?_
            refine R_getf_r (j := 7) rfl ft_8_49 sh_0 rfl ?_
            refine R_aload_n (k := 0) rfl rfl rfl ?_
            refine R_getf_r (j := 3) rfl ft_8_28 sh_0 rfl ?_
            refine R_iload_n (k := 2) rfl rfl rfl ?_
            refine R_callV (v := .inr (.inr (.inl 70))) (As := [.inr (.inr (.inl 16)), .inl x10]) (rest := []) rfl mt_8_i429 pp_X2_join (by decide) rfl rfl rfl (Nat.le_of_ble_eq_true rfl) (Nat.le_of_ble_eq_true rfl) ((k_X2_join h8 hI x10 (by omega)).mono (fun r37 h38 p39 => ?_))
            obtain ⟨hJ, fj, -, rfl⟩ := p39
            have f40 := fj
            have fr := fr.trans fj (by decide)
            have hI := hJ
            have fl9 : FR [70, 71, 72, 73, 74] h3 h38 := fl9.trans fj (by decide)
            have s41 : (h38.1 17 5).toInt = (h8.1 17 5).toInt := by rw [(f40 17 (by decide)).1]
            show RUN d_X8_waterOfSet 47 [(2, .inl x10), (0, .inr (.inr (.inl 0))), (1, .inl a0)] [] h38 _
            refine N_iinc (a := x10.toInt) (c := 1) (fun w => [(2, .inl w), (0, .inr (.inr (.inl 0))), (1, .inl a0)]) rfl rfl (fun _ => rfl) (by decide) rfl (by decide) (by omega) (fun x42 q43 => ?_)
            refine R_goto 13 rfl rfl ?_
            exact RUN_weak (psub_cons rfl (psub_cons rfl (psub_cons rfl (psub_nil _)))) (ih11 h38 x42 hI fr fl9 (by omega) (by omega))
  exact lp7 _ h3 (0 : Int32) hI fr (FR.rf _ _) (by decide) (Nat.lt_succ_self _)
abbrev q_X8_without (h : PH) (a0 : Int32) : Option PV → PH → Prop := fun r h' => INV h' ∧ FR [70, 71, 72, 73, 74] h h' ∧ (True) ∧ ∃ z : Int32, r = some (.inl z) ∧ ((True))
set_option maxHeartbeats 4000000 in
set_option maxRecDepth 100000 in
theorem k_X8_without (h : PH) (hI : INV h) (a0 : Int32) : CALL d_X8_without [.inr (.inr (.inl 0)), .inl a0] h (q_X8_without h a0) := by
  show RUN d_X8_without 0 [(0, .inr (.inr (.inl 0))), (1, .inl a0)] [] h _
  have b1 := i_rng a0
  have fr : FR [70, 71, 72, 73, 74] h h := FR.rf _ _
  refine R_aload_n (k := 0) rfl rfl rfl ?_
  refine R_getf_r (j := 3) rfl ft_8_28 sh_0 rfl ?_
  refine R_iload_n (k := 1) rfl rfl rfl ?_
  have b2 : (0 : Int) ≤ (h.1 17 5).toInt ∧ (h.1 17 5).toInt ≤ 6 := hI.1 17 5
  refine R_callV (v := .inr (.inr (.inl 16))) (As := [.inl a0]) (rest := []) rfl mt_8_i119 pp_X1_hasHand (by decide) rfl rfl rfl (Nat.le_of_ble_eq_true rfl) (Nat.le_of_ble_eq_true rfl) ((k_X1_hasHand h hI a0).mono (fun r3 h4 p5 => ?_))
  obtain ⟨rfl, x6, rfl, q7 | q7 | q7⟩ := p5
  · show RUN d_X8_without 8 [(0, .inr (.inr (.inl 0))), (1, .inl a0)] [.inl x6] h _
    refine N_if_eq (a := x6.toInt) 31 rfl rfl rfl (fun c8 => ?_) (fun c8 => ?_)
    · refine R_bipush (-2) rfl rfl ?_
      exact R_iret rfl rfl rfl ⟨hI, fr, trivial, _, rfl, trivial⟩
    · exfalso; omega
  · show RUN d_X8_without 8 [(0, .inr (.inr (.inl 0))), (1, .inl a0)] [.inl x6] h _
    refine N_if_eq (a := x6.toInt) 31 rfl rfl rfl (fun c9 => ?_) (fun c9 => ?_)
    · refine R_bipush (-2) rfl rfl ?_
      exact R_iret rfl rfl rfl ⟨hI, fr, trivial, _, rfl, trivial⟩
    · exfalso; omega
  · show RUN d_X8_without 8 [(0, .inr (.inr (.inl 0))), (1, .inl a0)] [.inl x6] h _
    refine N_if_eq (a := x6.toInt) 31 rfl rfl rfl (fun c10 => ?_) (fun c10 => ?_)
    · exfalso; omega
    · refine R_aload_n (k := 0) rfl rfl rfl ?_
      refine R_aload_n (k := 0) rfl rfl rfl ?_
      refine R_getf_r (j := 3) rfl ft_8_28 sh_0 rfl ?_
      refine R_callV (v := .inr (.inr (.inl 16))) (As := []) (rest := [.inr (.inr (.inl 0))]) rfl mt_8_i329 pp_X1_allHands (by decide) rfl rfl rfl (Nat.le_of_ble_eq_true rfl) (Nat.le_of_ble_eq_true rfl) ((k_X1_allHands h hI).mono (fun r11 h12 p13 => ?_))
      obtain ⟨rfl, x14, rfl, q15⟩ := p13
      show RUN d_X8_without 19 [(0, .inr (.inr (.inl 0))), (1, .inl a0)] [.inl x14, .inr (.inr (.inl 0))] h _
      refine R_iconst 1 rfl rfl ?_
      refine R_iload_n (k := 1) rfl rfl rfl ?_
      refine N_ishl1 (b := a0.toInt) rfl rfl (by omega) (fun x16 q17 => ?_)
      refine R_iconst (-1) rfl rfl ?_
      refine R_ixor rfl ?_
      refine N_any (fun x18 => ?_)
      refine R_iand rfl ?_
      refine N_any (fun x19 => ?_)
      refine R_callV (v := .inr (.inr (.inl 0))) (As := [.inl x19]) (rest := []) rfl mt_8_i332 pp_X8_waterOfSet (by decide) rfl rfl rfl (Nat.le_of_ble_eq_true rfl) (Nat.le_of_ble_eq_true rfl) ((k_X8_waterOfSet h hI x19).mono (fun r20 h21 p22 => ?_))
      obtain ⟨hJ, fj, -, x23, rfl, q24⟩ := p22
      have f25 := fj
      have fr := fr.trans fj (by decide)
      have hI := hJ
      have s26 : (h21.1 17 5).toInt = (h.1 17 5).toInt := by rw [(f25 17 (by decide)).1]
      show RUN d_X8_without 28 [(0, .inr (.inr (.inl 0))), (1, .inl a0)] [.inl x23] h21 _
      refine R_goto 33 rfl rfl ?_
      exact R_iret rfl rfl rfl ⟨hI, fr, trivial, _, rfl, trivial⟩
abbrev q_X9_allHands (h : PH)  : Option PV → PH → Prop := fun r h' => h = h' ∧ ∃ z : Int32, r = some (.inl z) ∧ ((0 ≤ z.toInt ∧ z.toInt ≤ 63))
set_option maxHeartbeats 4000000 in
set_option maxRecDepth 100000 in
theorem k_X9_allHands (h : PH) (hI : INV h)  : CALL d_X9_allHands [.inr (.inr (.inl 96))] h (q_X9_allHands h) := by
  show RUN d_X9_allHands 0 [(0, .inr (.inr (.inl 96)))] [] h _
  refine R_iconst 1 rfl rfl ?_
  refine R_aload_n (k := 0) rfl rfl rfl ?_
  have b1 : (0 : Int) ≤ (h.1 97 5).toInt ∧ (h.1 97 5).toInt ≤ 6 := hI.1 97 5
  have b2 : (0 : Int) ≤ (h.1 97 0).toInt ∧ (h.1 97 0).toInt ≤ 60 := hI.1 97 0
  have e3 : 0 < (h.1 97 5).toInt → 1 ≤ (h.1 97 0).toInt := hI.2.2.2.2.2.1.2.2
  refine R_callV (v := .inr (.inr (.inl 96))) (As := []) (rest := [.inl 1]) rfl mt_9_i133 pp_X9_hands (by decide) rfl rfl rfl (Nat.le_of_ble_eq_true rfl) (Nat.le_of_ble_eq_true rfl) ((k_X9_hands h hI).mono (fun r4 h5 p6 => ?_))
  obtain ⟨rfl, x7, rfl, q8⟩ := p6
  show RUN d_X9_allHands 5 [(0, .inr (.inr (.inl 96)))] [.inl x7, .inl 1] h _
  refine N_ishl1 (b := x7.toInt) rfl rfl (by omega) (fun x9 q10 => ?_)
  refine R_iconst 1 rfl rfl ?_
  refine N_isub (a := x9.toInt) (b := 1) rfl rfl (by decide) (by omega) (fun x11 q12 => ?_)
  exact R_iret rfl rfl rfl ⟨rfl, _, rfl, by omega⟩
abbrev q_X9_bringsOf (h : PH) (a0 : Int32) : Option PV → PH → Prop := fun r h' => INV h' ∧ FR [96, 105, 107, 108, 109, 110, 111, 112, 113, 114, 115, 116, 117, 118, 119] h h' ∧ (True) ∧ ∃ z : Int32, r = some (.inl z) ∧ ((True))
set_option maxHeartbeats 4000000 in
set_option maxRecDepth 100000 in
theorem k_X9_bringsOf (h : PH) (hI : INV h) (a0 : Int32) (p97_0 : 1 ≤ (h.1 97 0).toInt ∧ (h.1 97 0).toInt ≤ 60) : CALL d_X9_bringsOf [.inr (.inr (.inl 96)), .inl a0] h (q_X9_bringsOf h a0) := by
  show RUN d_X9_bringsOf 0 [(0, .inr (.inr (.inl 96))), (1, .inl a0)] [] h _
  have b1 := i_rng a0
  have fr : FR [96, 105, 107, 108, 109, 110, 111, 112, 113, 114, 115, 116, 117, 118, 119] h h := FR.rf _ _
  have b2 : (0 : Int) ≤ (h.1 97 0).toInt ∧ (h.1 97 0).toInt ≤ 60 := hI.1 97 0
  refine R_aload_n (k := 0) rfl rfl rfl ?_
  refine R_iconst 0 rfl rfl ?_
  refine K_putf (j := 18) (lo := 0) (hi' := 6) rfl ft_9_253 sh_96 rfl hI (by decide) rfl (by decide) fr (by decide) (fun h3 g4 hI fr => ?_)
  have s5 : (h3.1 97 0).toInt = (h.1 97 0).toInt := by rw [g4, wI_ne _ _ _ (by decide)]
  have s6 : (h3.1 96 18).toInt = 0 := by rw [g4, wI_is]; rfl
  refine R_iconst 0 rfl rfl ?_
  refine R_istore_n (k := 2) rfl [(2, .inl 0), (0, .inr (.inr (.inl 96))), (1, .inl a0)] rfl rfl (by decide) ?_
  have lp8 : ∀ (n7 : Nat) (h9 : PH) (x11 : Int32), INV h9 → FR [96, 105, 107, 108, 109, 110, 111, 112, 113, 114, 115, 116, 117, 118, 119] h h9 → FR [96, 105, 107, 108, 109, 110, 111, 112, 113, 114, 115, 116, 117, 118, 119] h3 h9 → 0 ≤ x11.toInt ∧ x11.toInt ≤ 6 → 0 ≤ (h9.1 96 18).toInt ∧ (h9.1 96 18).toInt ≤ 6 → (h9.1 96 18).toInt ≤ x11.toInt + 0 → (6 - x11.toInt).toNat < n7 → RUN d_X9_bringsOf 7 [(2, .inl x11), (0, .inr (.inr (.inl 96))), (1, .inl a0)] [] h9 (q_X9_bringsOf h a0) := by
    intro n7
    induction n7 with
    | zero => intro h9 x11 m13 m14 m15 m16 m17 m18 hz; exact absurd hz (Nat.not_lt_zero _)
    | succ n7 ih12 =>
      intro h9 x11 hI fr fl10 m16 m17 m18 hz
      have s19 : (h9.1 97 0).toInt = (h3.1 97 0).toInt := by rw [(fl10 97 (by decide)).1]
      refine R_iload_n (k := 2) rfl rfl rfl ?_
      refine R_aload_n (k := 0) rfl rfl rfl ?_
      have b20 : (0 : Int) ≤ (h9.1 97 5).toInt ∧ (h9.1 97 5).toInt ≤ 6 := hI.1 97 5
      have e21 : 0 < (h9.1 97 5).toInt → 1 ≤ (h9.1 97 0).toInt := hI.2.2.2.2.2.1.2.2
      refine R_callV (v := .inr (.inr (.inl 96))) (As := []) (rest := [.inl x11]) rfl mt_9_i133 pp_X9_hands (by decide) rfl rfl rfl (Nat.le_of_ble_eq_true rfl) (Nat.le_of_ble_eq_true rfl) ((k_X9_hands h9 hI).mono (fun r22 h23 p24 => ?_))
      obtain ⟨rfl, x25, rfl, q26⟩ := p24
      show RUN d_X9_bringsOf 12 [(2, .inl x11), (0, .inr (.inr (.inl 96))), (1, .inl a0)] [.inl x25, .inl x11] h9 _
      refine N_icmp_ge (a := x11.toInt) (b := x25.toInt) 52 rfl rfl rfl rfl (fun c27 => ?_) (fun c27 => ?_)
      · refine R_aload_n (k := 0) rfl rfl rfl ?_
        refine R_callV (v := .inr (.inr (.inl 96))) (As := []) (rest := []) rfl mt_9_i389 pp_X9_waterNow (by decide) rfl rfl rfl (Nat.le_of_ble_eq_true rfl) (Nat.le_of_ble_eq_true rfl) ((k_X9_waterNow h9 hI (by omega)).mono (fun r28 h29 p30 => ?_))
        obtain ⟨hJ, fj, ⟨kp31, kp32, kp33, kp34, kp35, kp36, -⟩, x37, rfl, q38⟩ := p30
        have f39 := fj
        have fr := fr.trans fj (by decide)
        have hI := hJ
        have fl10 : FR [96, 105, 107, 108, 109, 110, 111, 112, 113, 114, 115, 116, 117, 118, 119] h3 h29 := fl10.trans fj (by decide)
        have s40 : (h29.1 97 0).toInt = (h9.1 97 0).toInt := by rw [(f39 97 (by decide)).1]
        have s41 : (h29.1 97 5).toInt = (h9.1 97 5).toInt := by rw [(f39 97 (by decide)).1]
        show RUN d_X9_bringsOf 56 [(2, .inl x11), (0, .inr (.inr (.inl 96))), (1, .inl a0)] [.inl x37] h29 _
        exact R_iret rfl rfl rfl ⟨hI, fr, trivial, _, rfl, trivial⟩
      · refine R_iload_n (k := 1) rfl rfl rfl ?_
        refine R_iload_n (k := 2) rfl rfl rfl ?_
        refine R_callS (As := [.inl a0, .inl x11]) (rest := []) rfl mt_9_i292 (by decide) pp_X9_bit (by decide) rfl rfl (Nat.le_of_ble_eq_true rfl) (Nat.le_of_ble_eq_true rfl) ((k_X9_bit h9 hI a0 x11 (by omega)).mono (fun r42 h43 p44 => ?_))
        obtain ⟨rfl, x45, rfl, q46⟩ := p44
        show RUN d_X9_bringsOf 20 [(2, .inl x11), (0, .inr (.inr (.inl 96))), (1, .inl a0)] [.inl x45] h9 _
        refine N_if_ne (a := x45.toInt) 26 rfl rfl rfl (fun c47 => ?_) (fun c47 => ?_)
        · refine R_aload_n (k := 0) rfl rfl rfl ?_
          refine R_getf_r (j := 17) rfl ft_9_40 sh_96 rfl ?_
          refine R_aload_n (k := 0) rfl rfl rfl ?_
          refine R_getf_i (j := 18) rfl ft_9_253 sh_96 rfl ?_
          refine R_iload_n (k := 2) rfl rfl rfl ?_
          refine K_iast (a := (h9.1 96 18).toInt) (lo := 0) (hi' := 5) rfl sh_105 rfl ⟨by omega, by omega⟩ hI (by decide) rfl (by omega) fr (by decide) (fun h48 g49 hI fr => ?_)
          have fl10 : FR [96, 105, 107, 108, 109, 110, 111, 112, 113, 114, 115, 116, 117, 118, 119] h3 h48 := by rw [g49]; exact FR_wI _ _ fl10 (by decide)
          have s50 : (h48.1 97 0).toInt = (h9.1 97 0).toInt := by rw [g49, wI_ne _ _ _ (by decide)]
          have s51 : (h48.1 96 18).toInt = (h9.1 96 18).toInt := by rw [g49, wI_ne _ _ _ (by decide)]
          have s52 : (h48.1 97 5).toInt = (h9.1 97 5).toInt := by rw [g49, wI_ne _ _ _ (by decide)]
          refine R_aload_n (k := 0) rfl rfl rfl ?_
          refine R_dup_r rfl ?_
          refine R_getf_i (j := 18) rfl ft_9_253 sh_96 rfl ?_
          refine R_iconst 1 rfl rfl ?_
          refine N_iadd (a := (h48.1 96 18).toInt) (b := 1) rfl rfl (by decide) (by omega) (fun x53 q54 => ?_)
          refine K_putf (j := 18) (lo := 0) (hi' := 6) rfl ft_9_253 sh_96 rfl hI (by decide) rfl (by omega) fr (by decide) (fun h55 g56 hI fr => ?_)
          have fl10 : FR [96, 105, 107, 108, 109, 110, 111, 112, 113, 114, 115, 116, 117, 118, 119] h3 h55 := by rw [g56]; exact FR_wI _ _ fl10 (by decide)
          have s57 : (h55.1 97 0).toInt = (h48.1 97 0).toInt := by rw [g56, wI_ne _ _ _ (by decide)]
          have s58 : (h55.1 97 5).toInt = (h48.1 97 5).toInt := by rw [g56, wI_ne _ _ _ (by decide)]
          have s59 : (h55.1 96 18).toInt = x53.toInt := by rw [g56, wI_is]
          refine N_iinc (a := x11.toInt) (c := 1) (fun w => [(2, .inl w), (0, .inr (.inr (.inl 96))), (1, .inl a0)]) rfl rfl (fun _ => rfl) (by decide) rfl (by decide) (by omega) (fun x60 q61 => ?_)
          refine R_goto 7 rfl rfl ?_
          exact RUN_weak (psub_cons rfl (psub_cons rfl (psub_cons rfl (psub_nil _)))) (ih12 h55 x60 hI fr fl10 (by omega) (by omega) (by omega) (by omega))
        · refine R_goto 46 rfl rfl ?_
          refine N_iinc (a := x11.toInt) (c := 1) (fun w => [(2, .inl w), (0, .inr (.inr (.inl 96))), (1, .inl a0)]) rfl rfl (fun _ => rfl) (by decide) rfl (by decide) (by omega) (fun x62 q63 => ?_)
          refine R_goto 7 rfl rfl ?_
          exact RUN_weak (psub_cons rfl (psub_cons rfl (psub_cons rfl (psub_nil _)))) (ih12 h9 x62 hI fr fl10 (by omega) (by omega) (by omega) (by omega))
  have k64 : (0 : Int32).toInt = 0 := by decide
  exact lp8 _ h3 (0 : Int32) hI fr (FR.rf _ _) (by decide) (by omega) (by omega) (Nat.lt_succ_self _)
abbrev q_X9_without (h : PH) (a0 : Int32) : Option PV → PH → Prop := fun r h' => INV h' ∧ FR [96, 103, 104, 105, 106, 107, 108, 109, 110, 111, 112, 113, 114, 115, 116, 117, 118, 119] h h' ∧ (True) ∧ ∃ z : Int32, r = some (.inl z) ∧ ((True))
set_option maxHeartbeats 4000000 in
set_option maxRecDepth 100000 in
theorem k_X9_without (h : PH) (hI : INV h) (a0 : Int32) : CALL d_X9_without [.inr (.inr (.inl 96)), .inl a0] h (q_X9_without h a0) := by
  show RUN d_X9_without 0 [(0, .inr (.inr (.inl 96))), (1, .inl a0)] [] h _
  have b1 := i_rng a0
  have fr : FR [96, 103, 104, 105, 106, 107, 108, 109, 110, 111, 112, 113, 114, 115, 116, 117, 118, 119] h h := FR.rf _ _
  refine R_aload_n (k := 0) rfl rfl rfl ?_
  refine R_iload_n (k := 1) rfl rfl rfl ?_
  have b2 : (0 : Int) ≤ (h.1 97 5).toInt ∧ (h.1 97 5).toInt ≤ 6 := hI.1 97 5
  have b3 : (0 : Int) ≤ (h.1 97 0).toInt ∧ (h.1 97 0).toInt ≤ 60 := hI.1 97 0
  have e4 : 0 < (h.1 97 5).toInt → 1 ≤ (h.1 97 0).toInt := hI.2.2.2.2.2.1.2.2
  refine R_callV (v := .inr (.inr (.inl 96))) (As := [.inl a0]) (rest := []) rfl mt_9_i314 pp_X9_isHand (by decide) rfl rfl rfl (Nat.le_of_ble_eq_true rfl) (Nat.le_of_ble_eq_true rfl) ((k_X9_isHand h hI a0).mono (fun r5 h6 p7 => ?_))
  obtain ⟨rfl, x8, rfl, q9 | q9 | q9⟩ := p7
  · show RUN d_X9_without 5 [(0, .inr (.inr (.inl 96))), (1, .inl a0)] [.inl x8] h _
    refine N_if_ne (a := x8.toInt) 11 rfl rfl rfl (fun c10 => ?_) (fun c10 => ?_)
    · exfalso; omega
    · refine R_bipush (-2) rfl rfl ?_
      exact R_iret rfl rfl rfl ⟨hI, fr, trivial, _, rfl, trivial⟩
  · show RUN d_X9_without 5 [(0, .inr (.inr (.inl 96))), (1, .inl a0)] [.inl x8] h _
    refine N_if_ne (a := x8.toInt) 11 rfl rfl rfl (fun c11 => ?_) (fun c11 => ?_)
    · exfalso; omega
    · refine R_bipush (-2) rfl rfl ?_
      exact R_iret rfl rfl rfl ⟨hI, fr, trivial, _, rfl, trivial⟩
  · show RUN d_X9_without 5 [(0, .inr (.inr (.inl 96))), (1, .inl a0)] [.inl x8] h _
    refine N_if_ne (a := x8.toInt) 11 rfl rfl rfl (fun c12 => ?_) (fun c12 => ?_)
    · refine R_aload_n (k := 0) rfl rfl rfl ?_
      refine R_callV (v := .inr (.inr (.inl 96))) (As := []) (rest := []) rfl mt_9_i298 pp_X9_asItIs (by decide) rfl rfl rfl (Nat.le_of_ble_eq_true rfl) (Nat.le_of_ble_eq_true rfl) ((k_X9_asItIs h hI).mono (fun r13 h14 p15 => ?_))
      obtain ⟨hJ, fj, ⟨kp16, -⟩, rfl⟩ := p15
      have f17 := fj
      have fr := fr.trans fj (by decide)
      have hI := hJ
      have s18 : (h14.1 97 5).toInt = (h.1 97 5).toInt := by rw [(f17 97 (by decide)).1]
      have s19 : (h14.1 97 0).toInt = (h.1 97 0).toInt := by rw [(f17 97 (by decide)).1]
      show RUN d_X9_without 15 [(0, .inr (.inr (.inl 96))), (1, .inl a0)] [] h14 _
      refine R_aload_n (k := 0) rfl rfl rfl ?_
      refine R_aload_n (k := 0) rfl rfl rfl ?_
      refine R_callV (v := .inr (.inr (.inl 96))) (As := []) (rest := [.inr (.inr (.inl 96))]) rfl mt_9_i460 pp_X9_allHands (by decide) rfl rfl rfl (Nat.le_of_ble_eq_true rfl) (Nat.le_of_ble_eq_true rfl) ((k_X9_allHands h14 hI).mono (fun r20 h21 p22 => ?_))
      obtain ⟨rfl, x23, rfl, q24⟩ := p22
      show RUN d_X9_without 20 [(0, .inr (.inr (.inl 96))), (1, .inl a0)] [.inl x23, .inr (.inr (.inl 96))] h14 _
      refine R_iconst 1 rfl rfl ?_
      refine R_iload_n (k := 1) rfl rfl rfl ?_
      refine N_ishl1 (b := a0.toInt) rfl rfl (by omega) (fun x25 q26 => ?_)
      refine R_iconst (-1) rfl rfl ?_
      refine R_ixor rfl ?_
      refine N_any (fun x27 => ?_)
      refine R_iand rfl ?_
      refine N_any (fun x28 => ?_)
      refine R_callV (v := .inr (.inr (.inl 96))) (As := [.inl x28]) (rest := []) rfl mt_9_i466 pp_X9_bringsOf (by decide) rfl rfl rfl (Nat.le_of_ble_eq_true rfl) (Nat.le_of_ble_eq_true rfl) ((k_X9_bringsOf h14 hI x28 (by omega)).mono (fun r29 h30 p31 => ?_))
      obtain ⟨hJ, fj, -, x32, rfl, q33⟩ := p31
      have f34 := fj
      have fr := fr.trans fj (by decide)
      have hI := hJ
      have s35 : (h30.1 97 5).toInt = (h14.1 97 5).toInt := by rw [(f34 97 (by decide)).1]
      have s36 : (h30.1 97 0).toInt = (h14.1 97 0).toInt := by rw [(f34 97 (by decide)).1]
      show RUN d_X9_without 29 [(0, .inr (.inr (.inl 96))), (1, .inl a0)] [.inl x32] h30 _
      exact R_iret rfl rfl rfl ⟨hI, fr, trivial, _, rfl, trivial⟩
    · exfalso; omega
abbrev q_X2_wakeAll (h : PH)  : Option PV → PH → Prop := fun r h' => INV h' ∧ FR [73] h h' ∧ (True) ∧ r = none
set_option maxHeartbeats 4000000 in
set_option maxRecDepth 100000 in
theorem k_X2_wakeAll (h : PH) (hI : INV h)  : CALL d_X2_wakeAll [.inr (.inr (.inl 70))] h (q_X2_wakeAll h) := by
  show RUN d_X2_wakeAll 0 [(0, .inr (.inr (.inl 70)))] [] h _
  have fr : FR [73] h h := FR.rf _ _
  refine R_iconst 0 rfl rfl ?_
  refine R_istore_n (k := 1) rfl [(1, .inl 0), (0, .inr (.inr (.inl 70)))] rfl rfl (by decide) ?_
  have lp2 : ∀ (n1 : Nat) (h3 : PH) (x5 : Int32), INV h3 → FR [73] h h3 → FR [73] h h3 → 0 ≤ x5.toInt ∧ x5.toInt ≤ 6 → (6 - x5.toInt).toNat < n1 → RUN d_X2_wakeAll 2 [(1, .inl x5), (0, .inr (.inr (.inl 70)))] [] h3 (q_X2_wakeAll h) := by
    intro n1
    induction n1 with
    | zero => intro h3 x5 m7 m8 m9 m10 hz; exact absurd hz (Nat.not_lt_zero _)
    | succ n1 ih6 =>
      intro h3 x5 hI fr fl4 m10 hz
      refine R_iload_n (k := 1) rfl rfl rfl ?_
      refine R_aload_n (k := 0) rfl rfl rfl ?_
      refine R_getf_i (j := 4) rfl ft_2_25 sh_70 rfl ?_
      have b11 : (0 : Int) ≤ (h3.1 70 4).toInt ∧ (h3.1 70 4).toInt ≤ 6 := hI.1 70 4
      refine N_icmp_ge (a := x5.toInt) (b := (h3.1 70 4).toInt) 23 rfl rfl rfl rfl (fun c12 => ?_) (fun c12 => ?_)
      · exact R_vret rfl rfl ⟨hI, fr, trivial, rfl⟩
      · refine R_aload_n (k := 0) rfl rfl rfl ?_
        refine R_getf_r (j := 2) rfl ft_2_18 sh_70 rfl ?_
        refine R_iload_n (k := 1) rfl rfl rfl ?_
        refine R_lconst 0 rfl rfl ?_
        refine K_last (a := x5.toInt) rfl sh_73 rfl ⟨by omega, by omega⟩ hI fr (by decide) (fun h13 g14 hI fr => ?_)
        have fl4 : FR [73] h h13 := by rw [g14]; exact FR_wL _ _ fl4 (by decide)
        have s15 : (h13.1 70 4).toInt = (h3.1 70 4).toInt := by rw [g14, wL_fst]
        refine N_iinc (a := x5.toInt) (c := 1) (fun w => [(1, .inl w), (0, .inr (.inr (.inl 70)))]) rfl rfl (fun _ => rfl) (by decide) rfl (by decide) (by omega) (fun x16 q17 => ?_)
        refine R_goto 2 rfl rfl ?_
        exact RUN_weak (psub_cons rfl (psub_cons rfl (psub_nil _))) (ih6 h13 x16 hI fr fl4 (by omega) (by omega))
  exact lp2 _ h (0 : Int32) hI fr (FR.rf _ _) (by decide) (Nat.lt_succ_self _)
abbrev q_X0_stateOf (h : PH)  : Option PV → PH → Prop := fun r h' => h = h' ∧ ∃ z : Int64, r = some (.inr (.inl z))
set_option maxHeartbeats 4000000 in
set_option maxRecDepth 100000 in
theorem k_X0_stateOf (h : PH) (hI : INV h)  : CALL d_X0_stateOf [.inr (.inr (.inl 70))] h (q_X0_stateOf h) := by
  show RUN d_X0_stateOf 0 [(0, .inr (.inr (.inl 70)))] [] h _
  refine R_lconst 0 rfl rfl ?_
  refine R_lstore_n (k := 1) rfl [(1, .inr (.inl 0)), (0, .inr (.inr (.inl 70)))] rfl rfl (by decide) ?_
  refine R_iconst 0 rfl rfl ?_
  refine R_istore_n (k := 3) rfl [(3, .inl 0), (1, .inr (.inl 0)), (0, .inr (.inr (.inl 70)))] rfl rfl (by decide) ?_
  have lp2 : ∀ (n1 : Nat) (w3 : Int64) (x4 : Int32), 0 ≤ x4.toInt ∧ x4.toInt ≤ 6 → (6 - x4.toInt).toNat < n1 → RUN d_X0_stateOf 4 [(3, .inl x4), (1, .inr (.inl w3)), (0, .inr (.inr (.inl 70)))] [] h (q_X0_stateOf h) := by
    intro n1
    induction n1 with
    | zero => intro w3 x4 m6 hz; exact absurd hz (Nat.not_lt_zero _)
    | succ n1 ih5 =>
      intro w3 x4 m6 hz
      refine R_iload_n (k := 3) rfl rfl rfl ?_
      refine R_aload_n (k := 0) rfl rfl rfl ?_
      refine R_getf_i (j := 4) rfl ft_0_46 sh_70 rfl ?_
      have b7 : (0 : Int) ≤ (h.1 70 4).toInt ∧ (h.1 70 4).toInt ≤ 6 := hI.1 70 4
      refine N_icmp_ge (a := x4.toInt) (b := (h.1 70 4).toInt) 30 rfl rfl rfl rfl (fun c8 => ?_) (fun c8 => ?_)
      · refine R_lload_n (k := 1) rfl rfl rfl ?_
        refine R_bipush 21 rfl rfl ?_
        refine R_lshl rfl ?_
        refine N_anyL (fun w9 => ?_)
        refine R_aload_n (k := 0) rfl rfl rfl ?_
        refine R_getf_i (j := 9) rfl ft_0_53 sh_70 rfl ?_
        refine N_i2l rfl (fun w10 q11 => ?_)
        refine R_lor rfl ?_
        refine N_anyL (fun w12 => ?_)
        exact R_lret rfl rfl ⟨rfl, _, rfl⟩
      · refine R_lload_n (k := 1) rfl rfl rfl ?_
        refine R_iconst 3 rfl rfl ?_
        refine R_lshl rfl ?_
        refine N_anyL (fun w13 => ?_)
        refine R_aload_n (k := 0) rfl rfl rfl ?_
        refine R_getf_r (j := 3) rfl ft_0_49 sh_70 rfl ?_
        refine R_iload_n (k := 3) rfl rfl rfl ?_
        refine R_iald rfl sh_74 ⟨by omega, by omega⟩ ?_
        refine N_any (fun x14 => ?_)
        refine N_i2l rfl (fun w15 q16 => ?_)
        refine R_lor rfl ?_
        refine N_anyL (fun w17 => ?_)
        refine R_lstore_n (k := 1) rfl [(1, .inr (.inl w17)), (3, .inl x4), (0, .inr (.inr (.inl 70)))] rfl rfl (by decide) ?_
        refine N_iinc (a := x4.toInt) (c := 1) (fun w => [(3, .inl w), (1, .inr (.inl w17)), (0, .inr (.inr (.inl 70)))]) rfl rfl (fun _ => rfl) (by decide) rfl (by decide) (by omega) (fun x18 q19 => ?_)
        refine R_goto 4 rfl rfl ?_
        exact RUN_weak (psub_cons rfl (psub_cons rfl (psub_cons rfl (psub_nil _)))) (ih5 w17 x18 (by omega) (by omega))
  exact lp2 _ (0 : Int64) (0 : Int32) (by decide) (Nat.lt_succ_self _)
abbrev q_X0_earlierOf (h : PH) (a0 : Int32) : Option PV → PH → Prop := fun r h' => h = h' ∧ ∃ z : Int32, r = some (.inl z) ∧ (((-1) ≤ z.toInt ∧ z.toInt ≤ 254))
set_option maxHeartbeats 4000000 in
set_option maxRecDepth 100000 in
theorem k_X0_earlierOf (h : PH) (hI : INV h) (a0 : Int32) (h0a : 0 ≤ a0.toInt ∧ a0.toInt ≤ 255) : CALL d_X0_earlierOf [.inr (.inr (.inl 94)), .inl a0] h (q_X0_earlierOf h a0) := by
  show RUN d_X0_earlierOf 0 [(0, .inr (.inr (.inl 94))), (1, .inl a0)] [] h _
  refine R_iconst 0 rfl rfl ?_
  refine R_istore_n (k := 2) rfl [(2, .inl 0), (0, .inr (.inr (.inl 94))), (1, .inl a0)] rfl rfl (by decide) ?_
  have lp2 : ∀ (n1 : Nat) (x3 : Int32), 0 ≤ x3.toInt ∧ x3.toInt ≤ 255 → x3.toInt ≤ a0.toInt + 0 → (255 - x3.toInt).toNat < n1 → RUN d_X0_earlierOf 2 [(2, .inl x3), (0, .inr (.inr (.inl 94))), (1, .inl a0)] [] h (q_X0_earlierOf h a0) := by
    intro n1
    induction n1 with
    | zero => intro x3 m5 m6 hz; exact absurd hz (Nat.not_lt_zero _)
    | succ n1 ih4 =>
      intro x3 m5 m6 hz
      refine R_iload_n (k := 2) rfl rfl rfl ?_
      refine R_iload_n (k := 1) rfl rfl rfl ?_
      refine N_icmp_ge (a := x3.toInt) (b := a0.toInt) 31 rfl rfl rfl rfl (fun c7 => ?_) (fun c7 => ?_)
      · refine R_iconst (-1) rfl rfl ?_
        exact R_iret rfl rfl rfl ⟨rfl, _, rfl, by rw [show ((-1) : Int32).toInt = (-1) from rfl] <;> omega⟩
      · refine R_aload_n (k := 0) rfl rfl rfl ?_
        refine R_getf_r (j := 0) rfl ft_0_11 sh_94 rfl ?_
        refine R_iload_n (k := 2) rfl rfl rfl ?_
        refine R_lald rfl sh_95 ⟨by omega, by omega⟩ ?_
        refine N_anyL (fun w8 => ?_)
        refine R_aload_n (k := 0) rfl rfl rfl ?_
        refine R_getf_r (j := 0) rfl ft_0_11 sh_94 rfl ?_
        refine R_iload_n (k := 1) rfl rfl rfl ?_
        refine R_lald rfl sh_95 ⟨by omega, by omega⟩ ?_
        refine N_anyL (fun w9 => ?_)
        refine N_lcmp (a := w8.toInt) (b := w9.toInt) rfl rfl rfl (fun x10 q11 => ?_)
        refine N_if_ne (a := x10.toInt) 25 rfl rfl rfl (fun c12 => ?_) (fun c12 => ?_)
        · refine N_iinc (a := x3.toInt) (c := 1) (fun w => [(2, .inl w), (0, .inr (.inr (.inl 94))), (1, .inl a0)]) rfl rfl (fun _ => rfl) (by decide) rfl (by decide) (by omega) (fun x13 q14 => ?_)
          refine R_goto 2 rfl rfl ?_
          exact RUN_weak (psub_cons rfl (psub_cons rfl (psub_cons rfl (psub_nil _)))) (ih4 x13 (by omega) (by omega) (by omega))
        · refine R_iload_n (k := 2) rfl rfl rfl ?_
          exact R_iret rfl rfl rfl ⟨rfl, _, rfl, by omega⟩
  have k15 : (0 : Int32).toInt = 0 := by decide
  exact lp2 _ (0 : Int32) (by decide) (by omega) (Nat.lt_succ_self _)
abbrev q_X0_goRound (h : PH)  : Option PV → PH → Prop := fun r h' => INV h' ∧ FR [70, 73, 74, 94, 95] h h' ∧ (True) ∧ r = none
set_option maxHeartbeats 4000000 in
set_option maxRecDepth 100000 in
theorem k_X0_goRound (h : PH) (hI : INV h)  : CALL d_X0_goRound [.inr (.inr (.inl 94)), .inr (.inr (.inl 70))] h (q_X0_goRound h) := by
  show RUN d_X0_goRound 0 [(0, .inr (.inr (.inl 94))), (1, .inr (.inr (.inl 70)))] [] h _
  have fr : FR [70, 73, 74, 94, 95] h h := FR.rf _ _
  refine R_aload_n (k := 1) rfl rfl rfl ?_
  refine R_callV (v := .inr (.inr (.inl 70))) (As := []) (rest := []) rfl mt_0_i22 pp_X2_wakeAll (by decide) rfl rfl rfl (Nat.le_of_ble_eq_true rfl) (Nat.le_of_ble_eq_true rfl) ((k_X2_wakeAll h hI).mono (fun r1 h2 p3 => ?_))
  obtain ⟨hJ, fj, -, rfl⟩ := p3
  have f4 := fj
  have fr := fr.trans fj (by decide)
  have hI := hJ
  show RUN d_X0_goRound 4 [(0, .inr (.inr (.inl 94))), (1, .inr (.inr (.inl 70)))] [] h2 _
  refine R_aload_n (k := 1) rfl rfl rfl ?_
  refine R_callV (v := .inr (.inr (.inl 70))) (As := []) (rest := []) rfl mt_0_i27 pp_X2_begin (by decide) rfl rfl rfl (Nat.le_of_ble_eq_true rfl) (Nat.le_of_ble_eq_true rfl) ((k_X2_begin h2 hI).mono (fun r5 h6 p7 => ?_))
  obtain ⟨hJ, fj, ⟨kp8, -⟩, rfl⟩ := p7
  have f9 := fj
  have fr := fr.trans fj (by decide)
  have hI := hJ
  show RUN d_X0_goRound 8 [(0, .inr (.inr (.inl 94))), (1, .inr (.inr (.inl 70)))] [] h6 _
  refine R_aload_n (k := 0) rfl rfl rfl ?_
  refine R_iconst 0 rfl rfl ?_
  refine K_putf (j := 1) (lo := 0) (hi' := 255) rfl ft_0_15 sh_94 rfl hI (by decide) rfl (by decide) fr (by decide) (fun h10 g11 hI fr => ?_)
  have s12 : (h10.1 94 1).toInt = 0 := by rw [g11, wI_is]; rfl
  refine R_aload_n (k := 0) rfl rfl rfl ?_
  refine R_iconst 0 rfl rfl ?_
  refine K_putf (j := 2) (lo := 0) (hi' := 255) rfl ft_0_19 sh_94 rfl hI (by decide) rfl (by decide) fr (by decide) (fun h13 g14 hI fr => ?_)
  have s15 : (h13.1 94 1).toInt = (h10.1 94 1).toInt := by rw [g14, wI_at (by decide)]
  have s16 : (h13.1 94 2).toInt = 0 := by rw [g14, wI_is]; rfl
  refine R_iconst 0 rfl rfl ?_
  refine R_istore_n (k := 2) rfl [(2, .inl 0), (0, .inr (.inr (.inl 94))), (1, .inr (.inr (.inl 70)))] rfl rfl (by decide) ?_
  have lp18 : ∀ (n17 : Nat) (h19 : PH) (x21 : Int32), INV h19 → FR [70, 73, 74, 94, 95] h h19 → FR [70, 74, 94, 95] h13 h19 → 0 ≤ x21.toInt ∧ x21.toInt ≤ 256 → 0 ≤ (h19.1 94 1).toInt ∧ (h19.1 94 1).toInt ≤ 0 → 0 ≤ (h19.1 94 2).toInt ∧ (h19.1 94 2).toInt ≤ 0 → (256 - x21.toInt).toNat < n17 → RUN d_X0_goRound 20 [(2, .inl x21), (0, .inr (.inr (.inl 94))), (1, .inr (.inr (.inl 70)))] [] h19 (q_X0_goRound h) := by
    intro n17
    induction n17 with
    | zero => intro h19 x21 m23 m24 m25 m26 m27 m28 hz; exact absurd hz (Nat.not_lt_zero _)
    | succ n17 ih22 =>
      intro h19 x21 hI fr fl20 m26 m27 m28 hz
      refine R_iload_n (k := 2) rfl rfl rfl ?_
      refine R_sipush 256 rfl rfl ?_
      refine N_icmp_ge (a := x21.toInt) (b := 256) 72 rfl rfl rfl (by decide) (fun c29 => ?_) (fun c29 => ?_)
      · exact R_vret rfl rfl ⟨hI, fr, trivial, rfl⟩
      · refine R_aload_n (k := 1) rfl rfl rfl ?_
        refine R_iconst 0 rfl rfl ?_
        refine R_iconst 0 rfl rfl ?_
        have k30 : (0 : Int32).toInt = 0 := by decide
        have k31 : (0 : Int32).toInt = 0 := by decide
        refine R_callV (v := .inr (.inr (.inl 70))) (As := [.inl 0, .inl 0]) (rest := []) rfl mt_0_i30 pp_X2_step (by decide) rfl rfl rfl (Nat.le_of_ble_eq_true rfl) (Nat.le_of_ble_eq_true rfl) ((k_X2_step h19 hI (0 : Int32) (0 : Int32) (by decide) (by decide)).mono (fun r32 h33 p34 => ?_))
        obtain ⟨hJ, fj, ⟨kp35, -⟩, x36, rfl, q37⟩ := p34
        have f38 := fj
        have fr := fr.trans fj (by decide)
        have hI := hJ
        have fl20 : FR [70, 74, 94, 95] h13 h33 := fl20.trans fj (by decide)
        have s39 : (h33.1 94 1).toInt = (h19.1 94 1).toInt := by rw [(f38 94 (by decide)).1]
        have s40 : (h33.1 94 2).toInt = (h19.1 94 2).toInt := by rw [(f38 94 (by decide)).1]
        show RUN d_X0_goRound 33 [(2, .inl x21), (0, .inr (.inr (.inl 94))), (1, .inr (.inr (.inl 70)))] [.inl x36] h33 _
        refine R_pop_i rfl ?_
        refine R_aload_n (k := 0) rfl rfl rfl ?_
        refine R_getf_r (j := 0) rfl ft_0_11 sh_94 rfl ?_
        refine R_iload_n (k := 2) rfl rfl rfl ?_
        refine R_aload_n (k := 1) rfl rfl rfl ?_
        refine R_callS (As := [.inr (.inr (.inl 70))]) (rest := [.inl x21, .inr (.inr (.inl 95))]) rfl mt_0_i34 (by decide) pp_X0_stateOf (by decide) rfl rfl (Nat.le_of_ble_eq_true rfl) (Nat.le_of_ble_eq_true rfl) ((k_X0_stateOf h33 hI).mono (fun r41 h42 p43 => ?_))
        obtain ⟨rfl, w44, rfl⟩ := p43
        show RUN d_X0_goRound 43 [(2, .inl x21), (0, .inr (.inr (.inl 94))), (1, .inr (.inr (.inl 70)))] [.inr (.inl w44), .inl x21, .inr (.inr (.inl 95))] h33 _
        refine K_last (a := x21.toInt) rfl sh_95 rfl ⟨by omega, by omega⟩ hI fr (by decide) (fun h45 g46 hI fr => ?_)
        have fl20 : FR [70, 74, 94, 95] h13 h45 := by rw [g46]; exact FR_wL _ _ fl20 (by decide)
        have s47 : (h45.1 94 1).toInt = (h33.1 94 1).toInt := by rw [g46, wL_fst]
        have s48 : (h45.1 94 2).toInt = (h33.1 94 2).toInt := by rw [g46, wL_fst]
        refine R_aload_n (k := 0) rfl rfl rfl ?_
        refine R_iload_n (k := 2) rfl rfl rfl ?_
        refine R_callV (v := .inr (.inr (.inl 94))) (As := [.inl x21]) (rest := []) rfl mt_0_i38 pp_X0_earlierOf (by decide) rfl rfl rfl (Nat.le_of_ble_eq_true rfl) (Nat.le_of_ble_eq_true rfl) ((k_X0_earlierOf h45 hI x21 (by omega)).mono (fun r49 h50 p51 => ?_))
        obtain ⟨rfl, x52, rfl, q53⟩ := p51
        show RUN d_X0_goRound 49 [(2, .inl x21), (0, .inr (.inr (.inl 94))), (1, .inr (.inr (.inl 70)))] [.inl x52] h45 _
        refine R_istore_n (k := 3) rfl [(3, .inl x52), (2, .inl x21), (0, .inr (.inr (.inl 94))), (1, .inr (.inr (.inl 70)))] rfl rfl (by decide) ?_
        refine R_iload_n (k := 3) rfl rfl rfl ?_
        refine R_iconst (-1) rfl rfl ?_
        refine N_icmp_eq (a := x52.toInt) (b := (-1)) 66 rfl rfl rfl (by decide) (fun c54 => ?_) (fun c54 => ?_)
        · refine N_iinc (a := x21.toInt) (c := 1) (fun w => [(2, .inl w), (3, .inl x52), (0, .inr (.inr (.inl 94))), (1, .inr (.inr (.inl 70)))]) rfl rfl (fun _ => rfl) (by decide) rfl (by decide) (by omega) (fun x55 q56 => ?_)
          refine R_goto 20 rfl rfl ?_
          exact RUN_weak (psub_cons rfl (psub_cons rfl (psub_cons rfl (psub_nil _)))) (ih22 h45 x55 hI fr fl20 (by omega) (by omega) (by omega) (by omega))
        · refine R_aload_n (k := 0) rfl rfl rfl ?_
          refine R_iload_n (k := 3) rfl rfl rfl ?_
          refine K_putf (j := 1) (lo := 0) (hi' := 255) rfl ft_0_15 sh_94 rfl hI (by decide) rfl (by omega) fr (by decide) (fun h57 g58 hI fr => ?_)
          have fl20 : FR [70, 74, 94, 95] h13 h57 := by rw [g58]; exact FR_wI _ _ fl20 (by decide)
          have s59 : (h57.1 94 2).toInt = (h45.1 94 2).toInt := by rw [g58, wI_at (by decide)]
          have s60 : (h57.1 94 1).toInt = x52.toInt := by rw [g58, wI_is]
          refine R_aload_n (k := 0) rfl rfl rfl ?_
          refine R_iload_n (k := 2) rfl rfl rfl ?_
          refine K_putf (j := 2) (lo := 0) (hi' := 255) rfl ft_0_19 sh_94 rfl hI (by decide) rfl (by omega) fr (by decide) (fun h61 g62 hI fr => ?_)
          have fl20 : FR [70, 74, 94, 95] h13 h61 := by rw [g62]; exact FR_wI _ _ fl20 (by decide)
          have s63 : (h61.1 94 1).toInt = (h57.1 94 1).toInt := by rw [g62, wI_at (by decide)]
          have s64 : (h61.1 94 2).toInt = x21.toInt := by rw [g62, wI_is]
          exact R_vret rfl rfl ⟨hI, fr, trivial, rfl⟩
  exact lp18 _ h13 (0 : Int32) hI fr (FR.rf _ _) (by decide) (by omega) (by omega) (Nat.lt_succ_self _)
abbrev q_X8_roundRefusal (h : PH)  : Option PV → PH → Prop := fun r h' => INV h' ∧ FR [70, 71, 72, 73, 74, 94, 95] h h' ∧ (True) ∧ ∃ z : Int32, r = some (.inl z) ∧ (((-2) ≤ z.toInt ∧ z.toInt ≤ 0))
set_option maxHeartbeats 4000000 in
set_option maxRecDepth 100000 in
theorem k_X8_roundRefusal (h : PH) (hI : INV h)  : CALL d_X8_roundRefusal [.inr (.inr (.inl 0))] h (q_X8_roundRefusal h) := by
  show RUN d_X8_roundRefusal 0 [(0, .inr (.inr (.inl 0)))] [] h _
  have fr : FR [70, 71, 72, 73, 74, 94, 95] h h := FR.rf _ _
  refine R_aload_n (k := 0) rfl rfl rfl ?_
  refine R_getf_r (j := 3) rfl ft_8_28 sh_0 rfl ?_
  have b1 : (0 : Int) ≤ (h.1 17 0).toInt ∧ (h.1 17 0).toInt ≤ 60 := hI.1 17 0
  have e2 : 0 < (h.1 17 10).toInt → 1 ≤ (h.1 17 0).toInt := hI.2.1
  refine R_callV (v := .inr (.inr (.inl 16))) (As := []) (rest := []) rfl mt_8_i146 pp_X1_stands (by decide) rfl rfl rfl (Nat.le_of_ble_eq_true rfl) (Nat.le_of_ble_eq_true rfl) ((k_X1_stands h hI).mono (fun r3 h4 p5 => ?_))
  obtain ⟨rfl, x6, rfl, q7 | q7⟩ := p5
  · show RUN d_X8_roundRefusal 7 [(0, .inr (.inr (.inl 0)))] [.inl x6] h _
    refine N_if_ne (a := x6.toInt) 13 rfl rfl rfl (fun c8 => ?_) (fun c8 => ?_)
    · exfalso; omega
    · refine R_bipush (-2) rfl rfl ?_
      exact R_iret rfl rfl rfl ⟨hI, fr, trivial, _, rfl, by rw [show ((-2) : Int32).toInt = (-2) from rfl] <;> omega⟩
  · show RUN d_X8_roundRefusal 7 [(0, .inr (.inr (.inl 0)))] [.inl x6] h _
    refine N_if_ne (a := x6.toInt) 13 rfl rfl rfl (fun c9 => ?_) (fun c9 => ?_)
    · refine R_aload_n (k := 0) rfl rfl rfl ?_
      refine R_getf_r (j := 3) rfl ft_8_28 sh_0 rfl ?_
      refine R_getf_r (j := 0) rfl ft_8_109 sh_16 rfl ?_
      refine R_iconst 5 rfl rfl ?_
      refine R_iald rfl sh_17 (by decide) ?_
      have b10 : (0 : Int) ≤ (h.1 17 5).toInt ∧ (h.1 17 5).toInt ≤ 6 := hI.1 17 5
      show RUN d_X8_roundRefusal 22 [(0, .inr (.inr (.inl 0)))] [.inl (h.1 17 5)] h _
      refine N_if_ne (a := (h.1 17 5).toInt) 27 rfl rfl rfl (fun c11 => ?_) (fun c11 => ?_)
      · refine R_aload_n (k := 0) rfl rfl rfl ?_
        refine R_callV (v := .inr (.inr (.inl 0))) (As := []) (rest := []) rfl mt_8_i237 pp_X8_lineAsNow (by decide) rfl rfl rfl (Nat.le_of_ble_eq_true rfl) (Nat.le_of_ble_eq_true rfl) ((k_X8_lineAsNow h hI).mono (fun r12 h13 p14 => ?_))
        obtain ⟨hJ, fj, -, rfl⟩ := p14
        have f15 := fj
        have fr := fr.trans fj (by decide)
        have hI := hJ
        have s16 : (h13.1 17 10).toInt = (h.1 17 10).toInt := by rw [(f15 17 (by decide)).1]
        have s17 : (h13.1 17 0).toInt = (h.1 17 0).toInt := by rw [(f15 17 (by decide)).1]
        have s18 : (h13.1 17 5).toInt = (h.1 17 5).toInt := by rw [(f15 17 (by decide)).1]
        show RUN d_X8_roundRefusal 31 [(0, .inr (.inr (.inl 0)))] [] h13 _
        refine R_aload_n (k := 0) rfl rfl rfl ?_
        refine R_getf_r (j := 10) rfl ft_8_70 sh_0 rfl ?_
        refine R_aload_n (k := 0) rfl rfl rfl ?_
        refine R_getf_r (j := 7) rfl ft_8_49 sh_0 rfl ?_
        refine R_callV (v := .inr (.inr (.inl 94))) (As := [.inr (.inr (.inl 70))]) (rest := []) rfl mt_8_i434 pp_X0_goRound (by decide) rfl rfl rfl (Nat.le_of_ble_eq_true rfl) (Nat.le_of_ble_eq_true rfl) ((k_X0_goRound h13 hI).mono (fun r19 h20 p21 => ?_))
        obtain ⟨hJ, fj, -, rfl⟩ := p21
        have f22 := fj
        have fr := fr.trans fj (by decide)
        have hI := hJ
        have s23 : (h20.1 17 10).toInt = (h13.1 17 10).toInt := by rw [(f22 17 (by decide)).1]
        have s24 : (h20.1 17 0).toInt = (h13.1 17 0).toInt := by rw [(f22 17 (by decide)).1]
        have s25 : (h20.1 17 5).toInt = (h13.1 17 5).toInt := by rw [(f22 17 (by decide)).1]
        show RUN d_X8_roundRefusal 42 [(0, .inr (.inr (.inl 0)))] [] h20 _
        refine R_iconst 0 rfl rfl ?_
        exact R_iret rfl rfl rfl ⟨hI, fr, trivial, _, rfl, by rw [show (0 : Int32).toInt = 0 from rfl] <;> omega⟩
      · refine R_iconst (-1) rfl rfl ?_
        exact R_iret rfl rfl rfl ⟨hI, fr, trivial, _, rfl, by rw [show ((-1) : Int32).toInt = (-1) from rfl] <;> omega⟩
    · exfalso; omega
abbrev q_X8_settles (h : PH)  : Option PV → PH → Prop := fun r h' => INV h' ∧ FR [70, 71, 72, 73, 74, 94, 95] h h' ∧ (True) ∧ ∃ z : Int32, r = some (.inl z) ∧ (((-2) ≤ z.toInt ∧ z.toInt ≤ 255))
set_option maxHeartbeats 4000000 in
set_option maxRecDepth 100000 in
theorem k_X8_settles (h : PH) (hI : INV h)  : CALL d_X8_settles [.inr (.inr (.inl 0))] h (q_X8_settles h) := by
  show RUN d_X8_settles 0 [(0, .inr (.inr (.inl 0)))] [] h _
  have fr : FR [70, 71, 72, 73, 74, 94, 95] h h := FR.rf _ _
  refine R_aload_n (k := 0) rfl rfl rfl ?_
  refine R_callV (v := .inr (.inr (.inl 0))) (As := []) (rest := []) rfl mt_8_i271 pp_X8_roundRefusal (by decide) rfl rfl rfl (Nat.le_of_ble_eq_true rfl) (Nat.le_of_ble_eq_true rfl) ((k_X8_roundRefusal h hI).mono (fun r1 h2 p3 => ?_))
  obtain ⟨hJ, fj, -, x4, rfl, q5⟩ := p3
  have f6 := fj
  have fr := fr.trans fj (by decide)
  have hI := hJ
  show RUN d_X8_settles 4 [(0, .inr (.inr (.inl 0)))] [.inl x4] h2 _
  refine R_istore_n (k := 1) rfl [(1, .inl x4), (0, .inr (.inr (.inl 0)))] rfl rfl (by decide) ?_
  refine R_iload_n (k := 1) rfl rfl rfl ?_
  refine N_if_eq (a := x4.toInt) 13 rfl rfl rfl (fun c7 => ?_) (fun c7 => ?_)
  · refine R_aload_n (k := 0) rfl rfl rfl ?_
    refine R_getf_r (j := 10) rfl ft_8_70 sh_0 rfl ?_
    refine R_getf_i (j := 1) rfl ft_8_274 sh_94 rfl ?_
    have b8 : (0 : Int) ≤ (h2.1 94 1).toInt ∧ (h2.1 94 1).toInt ≤ 255 := hI.1 94 1
    exact R_iret rfl rfl rfl ⟨hI, fr, trivial, _, rfl, by omega⟩
  · refine R_iload_n (k := 1) rfl rfl rfl ?_
    refine R_goto 20 rfl rfl ?_
    exact R_iret rfl rfl rfl ⟨hI, fr, trivial, _, rfl, by omega⟩
abbrev q_X9_hasRound (h : PH)  : Option PV → PH → Prop := fun r h' => h = h' ∧ ∃ z : Int32, r = some (.inl z) ∧ ((z.toInt = 0 ∧ (h.1 97 10).toInt ≤ 0) ∨ (z.toInt = 0 ∧ 1 ≤ (h.1 97 0).toInt ∧ (h.1 97 0).toInt ≤ 60 ∧ (h.1 97 5).toInt = 0 ∧ 1 ≤ (h.1 97 10).toInt) ∨ (z.toInt = 1 ∧ 1 ≤ (h.1 97 0).toInt ∧ (h.1 97 0).toInt ≤ 60 ∧ 1 ≤ (h.1 97 5).toInt ∧ (h.1 97 5).toInt ≤ 6 ∧ 1 ≤ (h.1 97 10).toInt))
set_option maxHeartbeats 4000000 in
set_option maxRecDepth 100000 in
theorem k_X9_hasRound (h : PH) (hI : INV h)  : CALL d_X9_hasRound [.inr (.inr (.inl 96))] h (q_X9_hasRound h) := by
  show RUN d_X9_hasRound 0 [(0, .inr (.inr (.inl 96)))] [] h _
  refine R_aload_n (k := 0) rfl rfl rfl ?_
  have b1 : (0 : Int) ≤ (h.1 97 0).toInt ∧ (h.1 97 0).toInt ≤ 60 := hI.1 97 0
  have e2 : 0 < (h.1 97 10).toInt → 1 ≤ (h.1 97 0).toInt := hI.2.2.2.2.2.1.2.1
  refine R_callV (v := .inr (.inr (.inl 96))) (As := []) (rest := []) rfl mt_9_i301 pp_X9_isBrigade (by decide) rfl rfl rfl (Nat.le_of_ble_eq_true rfl) (Nat.le_of_ble_eq_true rfl) ((k_X9_isBrigade h hI).mono (fun r3 h4 p5 => ?_))
  obtain ⟨rfl, x6, rfl, q7 | q7⟩ := p5
  · show RUN d_X9_hasRound 4 [(0, .inr (.inr (.inl 96)))] [.inl x6] h _
    refine N_if_eq (a := x6.toInt) 18 rfl rfl rfl (fun c8 => ?_) (fun c8 => ?_)
    · refine R_iconst 0 rfl rfl ?_
      exact R_iret rfl rfl rfl ⟨rfl, _, rfl, by rw [show (0 : Int32).toInt = 0 from rfl] <;> omega⟩
    · exfalso; omega
  · show RUN d_X9_hasRound 4 [(0, .inr (.inr (.inl 96)))] [.inl x6] h _
    refine N_if_eq (a := x6.toInt) 18 rfl rfl rfl (fun c9 => ?_) (fun c9 => ?_)
    · exfalso; omega
    · refine R_aload_n (k := 0) rfl rfl rfl ?_
      have b10 : (0 : Int) ≤ (h.1 97 5).toInt ∧ (h.1 97 5).toInt ≤ 6 := hI.1 97 5
      have e11 : 0 < (h.1 97 5).toInt → 1 ≤ (h.1 97 0).toInt := hI.2.2.2.2.2.1.2.2
      refine R_callV (v := .inr (.inr (.inl 96))) (As := []) (rest := []) rfl mt_9_i133 pp_X9_hands (by decide) rfl rfl rfl (Nat.le_of_ble_eq_true rfl) (Nat.le_of_ble_eq_true rfl) ((k_X9_hands h hI).mono (fun r12 h13 p14 => ?_))
      obtain ⟨rfl, x15, rfl, q16⟩ := p14
      show RUN d_X9_hasRound 11 [(0, .inr (.inr (.inl 96)))] [.inl x15] h _
      refine N_if_le (a := x15.toInt) 18 rfl rfl rfl (fun c17 => ?_) (fun c17 => ?_)
      · refine R_iconst 0 rfl rfl ?_
        exact R_iret rfl rfl rfl ⟨rfl, _, rfl, by rw [show (0 : Int32).toInt = 0 from rfl] <;> omega⟩
      · refine R_iconst 1 rfl rfl ?_
        refine R_goto 19 rfl rfl ?_
        exact R_iret rfl rfl rfl ⟨rfl, _, rfl, by rw [show (1 : Int32).toInt = 1 from rfl] <;> omega⟩
abbrev q_X9_keepState (h : PH)  : Option PV → PH → Prop := fun r h' => INV h' ∧ FR [121] h h' ∧ (True) ∧ r = none
set_option maxHeartbeats 4000000 in
set_option maxRecDepth 100000 in
theorem k_X9_keepState (h : PH) (hI : INV h)  : CALL d_X9_keepState [.inr (.inr (.inl 96)), .inr (.inr (.inl 121))] h (q_X9_keepState h) := by
  show RUN d_X9_keepState 0 [(0, .inr (.inr (.inl 96))), (1, .inr (.inr (.inl 121)))] [] h _
  have fr : FR [121] h h := FR.rf _ _
  refine R_iconst 0 rfl rfl ?_
  refine R_istore_n (k := 2) rfl [(2, .inl 0), (0, .inr (.inr (.inl 96))), (1, .inr (.inr (.inl 121)))] rfl rfl (by decide) ?_
  have lp2 : ∀ (n1 : Nat) (h3 : PH) (x5 : Int32), INV h3 → FR [121] h h3 → FR [121] h h3 → 0 ≤ x5.toInt ∧ x5.toInt ≤ 6 → (6 - x5.toInt).toNat < n1 → RUN d_X9_keepState 2 [(2, .inl x5), (0, .inr (.inr (.inl 96))), (1, .inr (.inr (.inl 121)))] [] h3 (q_X9_keepState h) := by
    intro n1
    induction n1 with
    | zero => intro h3 x5 m7 m8 m9 m10 hz; exact absurd hz (Nat.not_lt_zero _)
    | succ n1 ih6 =>
      intro h3 x5 hI fr fl4 m10 hz
      refine R_iload_n (k := 2) rfl rfl rfl ?_
      refine R_bipush 6 rfl rfl ?_
      refine N_icmp_ge (a := x5.toInt) (b := 6) 32 rfl rfl rfl (by decide) (fun c11 => ?_) (fun c11 => ?_)
      · refine R_iconst 0 rfl rfl ?_
        refine R_istore_n (k := 2) rfl [(2, .inl 0), (0, .inr (.inr (.inl 96))), (1, .inr (.inr (.inl 121)))] rfl rfl (by decide) ?_
        have lp13 : ∀ (n12 : Nat) (h14 : PH) (x16 : Int32), INV h14 → FR [121] h h14 → FR [121] h3 h14 → 0 ≤ x16.toInt ∧ x16.toInt ≤ 23 → (23 - x16.toInt).toNat < n12 → RUN d_X9_keepState 34 [(2, .inl x16), (0, .inr (.inr (.inl 96))), (1, .inr (.inr (.inl 121)))] [] h14 (q_X9_keepState h) := by
          intro n12
          induction n12 with
          | zero => intro h14 x16 m18 m19 m20 m21 hz; exact absurd hz (Nat.not_lt_zero _)
          | succ n12 ih17 =>
            intro h14 x16 hI fr fl15 m21 hz
            have fl4 : FR [121] h h14 := fl4.trans fl15 (by decide)
            refine R_iload_n (k := 2) rfl rfl rfl ?_
            refine R_bipush 23 rfl rfl ?_
            refine N_icmp_ge (a := x16.toInt) (b := 23) 58 rfl rfl rfl (by decide) (fun c22 => ?_) (fun c22 => ?_)
            · exact R_vret rfl rfl ⟨hI, fr, trivial, rfl⟩
            · refine R_aload_n (k := 1) rfl rfl rfl ?_
              refine R_bipush 6 rfl rfl ?_
              refine R_iload_n (k := 2) rfl rfl rfl ?_
              refine N_iadd (a := 6) (b := x16.toInt) rfl (by decide) rfl (by omega) (fun x23 q24 => ?_)
              refine R_aload_n (k := 0) rfl rfl rfl ?_
              refine R_getf_r (j := 24) rfl ft_9_52 sh_96 rfl ?_
              refine R_iload_n (k := 2) rfl rfl rfl ?_
              refine R_iald rfl sh_109 ⟨by omega, by omega⟩ ?_
              refine N_any (fun x25 => ?_)
              refine K_iast (a := x23.toInt) (lo := (-2147483648)) (hi' := 2147483647) rfl sh_121 rfl ⟨by omega, by omega⟩ hI (by decide) rfl (i_rng _) fr (by decide) (fun h26 g27 hI fr => ?_)
              have fl15 : FR [121] h3 h26 := by rw [g27]; exact FR_wI _ _ fl15 (by decide)
              have fl4 : FR [121] h h26 := by rw [g27]; exact FR_wI _ _ fl4 (by decide)
              refine N_iinc (a := x16.toInt) (c := 1) (fun w => [(2, .inl w), (0, .inr (.inr (.inl 96))), (1, .inr (.inr (.inl 121)))]) rfl rfl (fun _ => rfl) (by decide) rfl (by decide) (by omega) (fun x28 q29 => ?_)
              refine R_goto 34 rfl rfl ?_
              exact RUN_weak (psub_cons rfl (psub_cons rfl (psub_cons rfl (psub_nil _)))) (ih17 h26 x28 hI fr fl15 (by omega) (by omega))
        exact lp13 _ h3 (0 : Int32) hI fr (FR.rf _ _) (by decide) (Nat.lt_succ_self _)
      · refine R_aload_n (k := 1) rfl rfl rfl ?_
        refine R_iload_n (k := 2) rfl rfl rfl ?_
        refine R_aload_n (k := 0) rfl rfl rfl ?_
        refine R_getf_r (j := 22) rfl ft_9_46 sh_96 rfl ?_
        refine R_iload_n (k := 2) rfl rfl rfl ?_
        refine R_iald rfl sh_107 ⟨by omega, by omega⟩ ?_
        refine N_any (fun x30 => ?_)
        refine R_aload_n (k := 0) rfl rfl rfl ?_
        refine R_getf_r (j := 15) rfl ft_9_34 sh_96 rfl ?_
        refine R_iload_n (k := 2) rfl rfl rfl ?_
        refine R_iald rfl sh_103 ⟨by omega, by omega⟩ ?_
        refine N_any (fun x31 => ?_)
        refine N_min (a := x30.toInt) (b := x31.toInt) rfl mt_9_i167 rfl rfl ⟨by decide, by decide, Nat.le_of_ble_eq_true rfl⟩ (fun x32 q33 => ?_)
        refine K_iast (a := x5.toInt) (lo := (-2147483648)) (hi' := 2147483647) rfl sh_121 rfl ⟨by omega, by omega⟩ hI (by decide) rfl (i_rng _) fr (by decide) (fun h34 g35 hI fr => ?_)
        have fl4 : FR [121] h h34 := by rw [g35]; exact FR_wI _ _ fl4 (by decide)
        refine N_iinc (a := x5.toInt) (c := 1) (fun w => [(2, .inl w), (0, .inr (.inr (.inl 96))), (1, .inr (.inr (.inl 121)))]) rfl rfl (fun _ => rfl) (by decide) rfl (by decide) (by omega) (fun x36 q37 => ?_)
        refine R_goto 2 rfl rfl ?_
        exact RUN_weak (psub_cons rfl (psub_cons rfl (psub_cons rfl (psub_nil _)))) (ih6 h34 x36 hI fr fl4 (by omega) (by omega))
  exact lp2 _ h (0 : Int32) hI fr (FR.rf _ _) (by decide) (Nat.lt_succ_self _)
abbrev q_X9_keepState_1 (h : PH)  : Option PV → PH → Prop := fun r h' => INV h' ∧ FR [122] h h' ∧ (True) ∧ r = none
set_option maxHeartbeats 4000000 in
set_option maxRecDepth 100000 in
theorem k_X9_keepState_1 (h : PH) (hI : INV h)  : CALL d_X9_keepState [.inr (.inr (.inl 96)), .inr (.inr (.inl 122))] h (q_X9_keepState_1 h) := by
  show RUN d_X9_keepState 0 [(0, .inr (.inr (.inl 96))), (1, .inr (.inr (.inl 122)))] [] h _
  have fr : FR [122] h h := FR.rf _ _
  refine R_iconst 0 rfl rfl ?_
  refine R_istore_n (k := 2) rfl [(2, .inl 0), (0, .inr (.inr (.inl 96))), (1, .inr (.inr (.inl 122)))] rfl rfl (by decide) ?_
  have lp2 : ∀ (n1 : Nat) (h3 : PH) (x5 : Int32), INV h3 → FR [122] h h3 → FR [122] h h3 → 0 ≤ x5.toInt ∧ x5.toInt ≤ 6 → (6 - x5.toInt).toNat < n1 → RUN d_X9_keepState 2 [(2, .inl x5), (0, .inr (.inr (.inl 96))), (1, .inr (.inr (.inl 122)))] [] h3 (q_X9_keepState_1 h) := by
    intro n1
    induction n1 with
    | zero => intro h3 x5 m7 m8 m9 m10 hz; exact absurd hz (Nat.not_lt_zero _)
    | succ n1 ih6 =>
      intro h3 x5 hI fr fl4 m10 hz
      refine R_iload_n (k := 2) rfl rfl rfl ?_
      refine R_bipush 6 rfl rfl ?_
      refine N_icmp_ge (a := x5.toInt) (b := 6) 32 rfl rfl rfl (by decide) (fun c11 => ?_) (fun c11 => ?_)
      · refine R_iconst 0 rfl rfl ?_
        refine R_istore_n (k := 2) rfl [(2, .inl 0), (0, .inr (.inr (.inl 96))), (1, .inr (.inr (.inl 122)))] rfl rfl (by decide) ?_
        have lp13 : ∀ (n12 : Nat) (h14 : PH) (x16 : Int32), INV h14 → FR [122] h h14 → FR [122] h3 h14 → 0 ≤ x16.toInt ∧ x16.toInt ≤ 23 → (23 - x16.toInt).toNat < n12 → RUN d_X9_keepState 34 [(2, .inl x16), (0, .inr (.inr (.inl 96))), (1, .inr (.inr (.inl 122)))] [] h14 (q_X9_keepState_1 h) := by
          intro n12
          induction n12 with
          | zero => intro h14 x16 m18 m19 m20 m21 hz; exact absurd hz (Nat.not_lt_zero _)
          | succ n12 ih17 =>
            intro h14 x16 hI fr fl15 m21 hz
            have fl4 : FR [122] h h14 := fl4.trans fl15 (by decide)
            refine R_iload_n (k := 2) rfl rfl rfl ?_
            refine R_bipush 23 rfl rfl ?_
            refine N_icmp_ge (a := x16.toInt) (b := 23) 58 rfl rfl rfl (by decide) (fun c22 => ?_) (fun c22 => ?_)
            · exact R_vret rfl rfl ⟨hI, fr, trivial, rfl⟩
            · refine R_aload_n (k := 1) rfl rfl rfl ?_
              refine R_bipush 6 rfl rfl ?_
              refine R_iload_n (k := 2) rfl rfl rfl ?_
              refine N_iadd (a := 6) (b := x16.toInt) rfl (by decide) rfl (by omega) (fun x23 q24 => ?_)
              refine R_aload_n (k := 0) rfl rfl rfl ?_
              refine R_getf_r (j := 24) rfl ft_9_52 sh_96 rfl ?_
              refine R_iload_n (k := 2) rfl rfl rfl ?_
              refine R_iald rfl sh_109 ⟨by omega, by omega⟩ ?_
              refine N_any (fun x25 => ?_)
              refine K_iast (a := x23.toInt) (lo := (-2147483648)) (hi' := 2147483647) rfl sh_122 rfl ⟨by omega, by omega⟩ hI (by decide) rfl (i_rng _) fr (by decide) (fun h26 g27 hI fr => ?_)
              have fl15 : FR [122] h3 h26 := by rw [g27]; exact FR_wI _ _ fl15 (by decide)
              have fl4 : FR [122] h h26 := by rw [g27]; exact FR_wI _ _ fl4 (by decide)
              refine N_iinc (a := x16.toInt) (c := 1) (fun w => [(2, .inl w), (0, .inr (.inr (.inl 96))), (1, .inr (.inr (.inl 122)))]) rfl rfl (fun _ => rfl) (by decide) rfl (by decide) (by omega) (fun x28 q29 => ?_)
              refine R_goto 34 rfl rfl ?_
              exact RUN_weak (psub_cons rfl (psub_cons rfl (psub_cons rfl (psub_nil _)))) (ih17 h26 x28 hI fr fl15 (by omega) (by omega))
        exact lp13 _ h3 (0 : Int32) hI fr (FR.rf _ _) (by decide) (Nat.lt_succ_self _)
      · refine R_aload_n (k := 1) rfl rfl rfl ?_
        refine R_iload_n (k := 2) rfl rfl rfl ?_
        refine R_aload_n (k := 0) rfl rfl rfl ?_
        refine R_getf_r (j := 22) rfl ft_9_46 sh_96 rfl ?_
        refine R_iload_n (k := 2) rfl rfl rfl ?_
        refine R_iald rfl sh_107 ⟨by omega, by omega⟩ ?_
        refine N_any (fun x30 => ?_)
        refine R_aload_n (k := 0) rfl rfl rfl ?_
        refine R_getf_r (j := 15) rfl ft_9_34 sh_96 rfl ?_
        refine R_iload_n (k := 2) rfl rfl rfl ?_
        refine R_iald rfl sh_103 ⟨by omega, by omega⟩ ?_
        refine N_any (fun x31 => ?_)
        refine N_min (a := x30.toInt) (b := x31.toInt) rfl mt_9_i167 rfl rfl ⟨by decide, by decide, Nat.le_of_ble_eq_true rfl⟩ (fun x32 q33 => ?_)
        refine K_iast (a := x5.toInt) (lo := (-2147483648)) (hi' := 2147483647) rfl sh_122 rfl ⟨by omega, by omega⟩ hI (by decide) rfl (i_rng _) fr (by decide) (fun h34 g35 hI fr => ?_)
        have fl4 : FR [122] h h34 := by rw [g35]; exact FR_wI _ _ fl4 (by decide)
        refine N_iinc (a := x5.toInt) (c := 1) (fun w => [(2, .inl w), (0, .inr (.inr (.inl 96))), (1, .inr (.inr (.inl 122)))]) rfl rfl (fun _ => rfl) (by decide) rfl (by decide) (by omega) (fun x36 q37 => ?_)
        refine R_goto 2 rfl rfl ?_
        exact RUN_weak (psub_cons rfl (psub_cons rfl (psub_cons rfl (psub_nil _)))) (ih6 h34 x36 hI fr fl4 (by omega) (by omega))
  exact lp2 _ h (0 : Int32) hI fr (FR.rf _ _) (by decide) (Nat.lt_succ_self _)
