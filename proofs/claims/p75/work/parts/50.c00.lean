abbrev q_X9_settles (h : PH)  : Option PV → PH → Prop := fun r h' => INV h' ∧ FR [96, 103, 104, 105, 106, 107, 108, 109, 117, 118, 121, 122] h h' ∧ (True) ∧ ∃ z : Int32, r = some (.inl z) ∧ ((True))
set_option maxHeartbeats 4000000 in
set_option maxRecDepth 100000 in
theorem k_X9_settles (h : PH) (hI : INV h)  : CALL d_X9_settles [.inr (.inr (.inl 96))] h (q_X9_settles h) := by
  show RUN d_X9_settles 0 [(0, .inr (.inr (.inl 96)))] [] h _
  have fr : FR [96, 103, 104, 105, 106, 107, 108, 109, 117, 118, 121, 122] h h := FR.rf _ _
  refine R_aload_n (k := 0) rfl rfl rfl ?_
  have b1 : (0 : Int) ≤ (h.1 97 0).toInt ∧ (h.1 97 0).toInt ≤ 60 := hI.1 97 0
  have e2 : 0 < (h.1 97 10).toInt → 1 ≤ (h.1 97 0).toInt := hI.2.2.2.2.2.1.2.1
  have b3 : (0 : Int) ≤ (h.1 97 5).toInt ∧ (h.1 97 5).toInt ≤ 6 := hI.1 97 5
  have e4 : 0 < (h.1 97 5).toInt → 1 ≤ (h.1 97 0).toInt := hI.2.2.2.2.2.1.2.2
  refine R_callV (v := .inr (.inr (.inl 96))) (As := []) (rest := []) rfl mt_9_i371 pp_X9_hasRound (by decide) rfl rfl rfl (Nat.le_of_ble_eq_true rfl) (Nat.le_of_ble_eq_true rfl) ((k_X9_hasRound h hI).mono (fun r5 h6 p7 => ?_))
  obtain ⟨rfl, x8, rfl, q9 | q9 | q9⟩ := p7
  · show RUN d_X9_settles 4 [(0, .inr (.inr (.inl 96)))] [.inl x8] h _
    refine N_if_ne (a := x8.toInt) 21 rfl rfl rfl (fun c10 => ?_) (fun c10 => ?_)
    · exfalso; omega
    · refine R_aload_n (k := 0) rfl rfl rfl ?_
      refine R_callV (v := .inr (.inr (.inl 96))) (As := []) (rest := []) rfl mt_9_i301 pp_X9_isBrigade (by decide) rfl rfl rfl (Nat.le_of_ble_eq_true rfl) (Nat.le_of_ble_eq_true rfl) ((k_X9_isBrigade h hI).mono (fun r11 h12 p13 => ?_))
      obtain ⟨rfl, x14, rfl, q15 | q15⟩ := p13
      · show RUN d_X9_settles 11 [(0, .inr (.inr (.inl 96)))] [.inl x14] h _
        refine N_if_eq (a := x14.toInt) 18 rfl rfl rfl (fun c16 => ?_) (fun c16 => ?_)
        · refine R_bipush (-2) rfl rfl ?_
          exact R_iret rfl rfl rfl ⟨hI, fr, trivial, _, rfl, trivial⟩
        · exfalso; omega
      · exfalso; omega
  · show RUN d_X9_settles 4 [(0, .inr (.inr (.inl 96)))] [.inl x8] h _
    refine N_if_ne (a := x8.toInt) 21 rfl rfl rfl (fun c17 => ?_) (fun c17 => ?_)
    · exfalso; omega
    · refine R_aload_n (k := 0) rfl rfl rfl ?_
      refine R_callV (v := .inr (.inr (.inl 96))) (As := []) (rest := []) rfl mt_9_i301 pp_X9_isBrigade (by decide) rfl rfl rfl (Nat.le_of_ble_eq_true rfl) (Nat.le_of_ble_eq_true rfl) ((k_X9_isBrigade h hI).mono (fun r18 h19 p20 => ?_))
      obtain ⟨rfl, x21, rfl, q22 | q22⟩ := p20
      · exfalso; omega
      · show RUN d_X9_settles 11 [(0, .inr (.inr (.inl 96)))] [.inl x21] h _
        refine N_if_eq (a := x21.toInt) 18 rfl rfl rfl (fun c23 => ?_) (fun c23 => ?_)
        · exfalso; omega
        · refine R_iconst (-1) rfl rfl ?_
          refine R_goto 20 rfl rfl ?_
          exact R_iret rfl rfl rfl ⟨hI, fr, trivial, _, rfl, trivial⟩
  · show RUN d_X9_settles 4 [(0, .inr (.inr (.inl 96)))] [.inl x8] h _
    refine N_if_ne (a := x8.toInt) 21 rfl rfl rfl (fun c24 => ?_) (fun c24 => ?_)
    · refine R_aload_n (k := 0) rfl rfl rfl ?_
      refine R_callV (v := .inr (.inr (.inl 96))) (As := []) (rest := []) rfl mt_9_i374 pp_X9_layRound (by decide) rfl rfl rfl (Nat.le_of_ble_eq_true rfl) (Nat.le_of_ble_eq_true rfl) ((k_X9_layRound h hI).mono (fun r25 h26 p27 => ?_))
      obtain ⟨hJ, fj, ⟨xq28, -⟩, rfl⟩ := p27
      have f29 := fj
      have fr := fr.trans fj (by decide)
      have hI := hJ
      have s30 : (h26.1 97 10).toInt = (h.1 97 10).toInt := by rw [(f29 97 (by decide)).1]
      have s31 : (h26.1 97 0).toInt = (h.1 97 0).toInt := by rw [(f29 97 (by decide)).1]
      have s32 : (h26.1 97 5).toInt = (h.1 97 5).toInt := by rw [(f29 97 (by decide)).1]
      show RUN d_X9_settles 25 [(0, .inr (.inr (.inl 96)))] [] h26 _
      refine R_aload_n (k := 0) rfl rfl rfl ?_
      refine R_getf_i (j := 41) rfl ft_9_362 sh_96 rfl ?_
      exact R_iret rfl rfl rfl ⟨hI, fr, trivial, _, rfl, trivial⟩
    · exfalso; omega
abbrev q_X9_round (h : PH)  : Option PV → PH → Prop := fun r h' => INV h' ∧ FR [96, 103, 104, 105, 106, 107, 108, 109, 117, 118, 121, 122] h h' ∧ (True) ∧ ∃ z : Int32, r = some (.inl z) ∧ ((True))
set_option maxHeartbeats 4000000 in
set_option maxRecDepth 100000 in
theorem k_X9_round (h : PH) (hI : INV h)  : CALL d_X9_round [.inr (.inr (.inl 96))] h (q_X9_round h) := by
  show RUN d_X9_round 0 [(0, .inr (.inr (.inl 96)))] [] h _
  have fr : FR [96, 103, 104, 105, 106, 107, 108, 109, 117, 118, 121, 122] h h := FR.rf _ _
  refine R_aload_n (k := 0) rfl rfl rfl ?_
  have b1 : (0 : Int) ≤ (h.1 97 0).toInt ∧ (h.1 97 0).toInt ≤ 60 := hI.1 97 0
  have e2 : 0 < (h.1 97 10).toInt → 1 ≤ (h.1 97 0).toInt := hI.2.2.2.2.2.1.2.1
  have b3 : (0 : Int) ≤ (h.1 97 5).toInt ∧ (h.1 97 5).toInt ≤ 6 := hI.1 97 5
  have e4 : 0 < (h.1 97 5).toInt → 1 ≤ (h.1 97 0).toInt := hI.2.2.2.2.2.1.2.2
  refine R_callV (v := .inr (.inr (.inl 96))) (As := []) (rest := []) rfl mt_9_i371 pp_X9_hasRound (by decide) rfl rfl rfl (Nat.le_of_ble_eq_true rfl) (Nat.le_of_ble_eq_true rfl) ((k_X9_hasRound h hI).mono (fun r5 h6 p7 => ?_))
  obtain ⟨rfl, x8, rfl, q9 | q9 | q9⟩ := p7
  · show RUN d_X9_round 4 [(0, .inr (.inr (.inl 96)))] [.inl x8] h _
    refine N_if_ne (a := x8.toInt) 21 rfl rfl rfl (fun c10 => ?_) (fun c10 => ?_)
    · exfalso; omega
    · refine R_aload_n (k := 0) rfl rfl rfl ?_
      refine R_callV (v := .inr (.inr (.inl 96))) (As := []) (rest := []) rfl mt_9_i301 pp_X9_isBrigade (by decide) rfl rfl rfl (Nat.le_of_ble_eq_true rfl) (Nat.le_of_ble_eq_true rfl) ((k_X9_isBrigade h hI).mono (fun r11 h12 p13 => ?_))
      obtain ⟨rfl, x14, rfl, q15 | q15⟩ := p13
      · show RUN d_X9_round 11 [(0, .inr (.inr (.inl 96)))] [.inl x14] h _
        refine N_if_eq (a := x14.toInt) 18 rfl rfl rfl (fun c16 => ?_) (fun c16 => ?_)
        · refine R_bipush (-2) rfl rfl ?_
          exact R_iret rfl rfl rfl ⟨hI, fr, trivial, _, rfl, trivial⟩
        · exfalso; omega
      · exfalso; omega
  · show RUN d_X9_round 4 [(0, .inr (.inr (.inl 96)))] [.inl x8] h _
    refine N_if_ne (a := x8.toInt) 21 rfl rfl rfl (fun c17 => ?_) (fun c17 => ?_)
    · exfalso; omega
    · refine R_aload_n (k := 0) rfl rfl rfl ?_
      refine R_callV (v := .inr (.inr (.inl 96))) (As := []) (rest := []) rfl mt_9_i301 pp_X9_isBrigade (by decide) rfl rfl rfl (Nat.le_of_ble_eq_true rfl) (Nat.le_of_ble_eq_true rfl) ((k_X9_isBrigade h hI).mono (fun r18 h19 p20 => ?_))
      obtain ⟨rfl, x21, rfl, q22 | q22⟩ := p20
      · exfalso; omega
      · show RUN d_X9_round 11 [(0, .inr (.inr (.inl 96)))] [.inl x21] h _
        refine N_if_eq (a := x21.toInt) 18 rfl rfl rfl (fun c23 => ?_) (fun c23 => ?_)
        · exfalso; omega
        · refine R_iconst (-1) rfl rfl ?_
          refine R_goto 20 rfl rfl ?_
          exact R_iret rfl rfl rfl ⟨hI, fr, trivial, _, rfl, trivial⟩
  · show RUN d_X9_round 4 [(0, .inr (.inr (.inl 96)))] [.inl x8] h _
    refine N_if_ne (a := x8.toInt) 21 rfl rfl rfl (fun c24 => ?_) (fun c24 => ?_)
    · refine R_aload_n (k := 0) rfl rfl rfl ?_
      refine R_callV (v := .inr (.inr (.inl 96))) (As := []) (rest := []) rfl mt_9_i374 pp_X9_layRound (by decide) rfl rfl rfl (Nat.le_of_ble_eq_true rfl) (Nat.le_of_ble_eq_true rfl) ((k_X9_layRound h hI).mono (fun r25 h26 p27 => ?_))
      obtain ⟨hJ, fj, ⟨xq28, -⟩, rfl⟩ := p27
      have f29 := fj
      have fr := fr.trans fj (by decide)
      have hI := hJ
      have s30 : (h26.1 97 10).toInt = (h.1 97 10).toInt := by rw [(f29 97 (by decide)).1]
      have s31 : (h26.1 97 0).toInt = (h.1 97 0).toInt := by rw [(f29 97 (by decide)).1]
      have s32 : (h26.1 97 5).toInt = (h.1 97 5).toInt := by rw [(f29 97 (by decide)).1]
      show RUN d_X9_round 25 [(0, .inr (.inr (.inl 96)))] [] h26 _
      refine R_aload_n (k := 0) rfl rfl rfl ?_
      refine R_getf_i (j := 42) rfl ft_9_355 sh_96 rfl ?_
      exact R_iret rfl rfl rfl ⟨hI, fr, trivial, _, rfl, trivial⟩
    · exfalso; omega
abbrev q_X9_rate (h : PH) (a0 : Int32) : Option PV → PH → Prop := fun r h' => INV h' ∧ FR [96, 103, 104, 105, 106, 107, 108, 109, 117, 118, 121, 122] h h' ∧ (True) ∧ ∃ z : Int32, r = some (.inl z) ∧ ((True))
set_option maxHeartbeats 4000000 in
set_option maxRecDepth 100000 in
theorem k_X9_rate (h : PH) (hI : INV h) (a0 : Int32) : CALL d_X9_rate [.inr (.inr (.inl 96)), .inl a0] h (q_X9_rate h a0) := by
  show RUN d_X9_rate 0 [(0, .inr (.inr (.inl 96))), (1, .inl a0)] [] h _
  have b1 := i_rng a0
  have fr : FR [96, 103, 104, 105, 106, 107, 108, 109, 117, 118, 121, 122] h h := FR.rf _ _
  refine R_aload_n (k := 0) rfl rfl rfl ?_
  have b2 : (0 : Int) ≤ (h.1 97 0).toInt ∧ (h.1 97 0).toInt ≤ 60 := hI.1 97 0
  have e3 : 0 < (h.1 97 10).toInt → 1 ≤ (h.1 97 0).toInt := hI.2.2.2.2.2.1.2.1
  refine R_callV (v := .inr (.inr (.inl 96))) (As := []) (rest := []) rfl mt_9_i301 pp_X9_isBrigade (by decide) rfl rfl rfl (Nat.le_of_ble_eq_true rfl) (Nat.le_of_ble_eq_true rfl) ((k_X9_isBrigade h hI).mono (fun r4 h5 p6 => ?_))
  obtain ⟨rfl, x7, rfl, q8 | q8⟩ := p6
  · show RUN d_X9_rate 4 [(0, .inr (.inr (.inl 96))), (1, .inl a0)] [.inl x7] h _
    refine N_if_eq (a := x7.toInt) 17 rfl rfl rfl (fun c9 => ?_) (fun c9 => ?_)
    · refine R_bipush (-2) rfl rfl ?_
      exact R_iret rfl rfl rfl ⟨hI, fr, trivial, _, rfl, trivial⟩
    · exfalso; omega
  · show RUN d_X9_rate 4 [(0, .inr (.inr (.inl 96))), (1, .inl a0)] [.inl x7] h _
    refine N_if_eq (a := x7.toInt) 17 rfl rfl rfl (fun c10 => ?_) (fun c10 => ?_)
    · exfalso; omega
    · refine R_iload_n (k := 1) rfl rfl rfl ?_
      refine N_i2l rfl (fun w11 q12 => ?_)
      refine R_lconst 0 rfl rfl ?_
      refine R_lconst 1 rfl rfl ?_
      have k13 : (0 : Int64).toInt = 0 := by decide
      have k14 : (1 : Int64).toInt = 1 := by decide
      refine R_callS (As := [.inr (.inl w11), .inr (.inl 0), .inr (.inl 1)]) (rest := []) rfl mt_9_i125 (by decide) pp_X9_in (by decide) rfl rfl (Nat.le_of_ble_eq_true rfl) (Nat.le_of_ble_eq_true rfl) ((k_X9_in h hI w11 (0 : Int64) (1 : Int64)).mono (fun r15 h16 p17 => ?_))
      obtain ⟨rfl, x18, rfl, q19 | q19 | q19⟩ := p17
      · show RUN d_X9_rate 14 [(0, .inr (.inr (.inl 96))), (1, .inl a0)] [.inl x18] h _
        refine N_if_ne (a := x18.toInt) 20 rfl rfl rfl (fun c20 => ?_) (fun c20 => ?_)
        · exfalso; omega
        · refine R_bipush (-2) rfl rfl ?_
          exact R_iret rfl rfl rfl ⟨hI, fr, trivial, _, rfl, trivial⟩
      · show RUN d_X9_rate 14 [(0, .inr (.inr (.inl 96))), (1, .inl a0)] [.inl x18] h _
        refine N_if_ne (a := x18.toInt) 20 rfl rfl rfl (fun c21 => ?_) (fun c21 => ?_)
        · exfalso; omega
        · refine R_bipush (-2) rfl rfl ?_
          exact R_iret rfl rfl rfl ⟨hI, fr, trivial, _, rfl, trivial⟩
      · show RUN d_X9_rate 14 [(0, .inr (.inr (.inl 96))), (1, .inl a0)] [.inl x18] h _
        refine N_if_ne (a := x18.toInt) 20 rfl rfl rfl (fun c22 => ?_) (fun c22 => ?_)
        · refine R_aload_n (k := 0) rfl rfl rfl ?_
          have b23 : (0 : Int) ≤ (h.1 97 5).toInt ∧ (h.1 97 5).toInt ≤ 6 := hI.1 97 5
          have e24 : 0 < (h.1 97 5).toInt → 1 ≤ (h.1 97 0).toInt := hI.2.2.2.2.2.1.2.2
          refine R_callV (v := .inr (.inr (.inl 96))) (As := []) (rest := []) rfl mt_9_i371 pp_X9_hasRound (by decide) rfl rfl rfl (Nat.le_of_ble_eq_true rfl) (Nat.le_of_ble_eq_true rfl) ((k_X9_hasRound h hI).mono (fun r25 h26 p27 => ?_))
          obtain ⟨rfl, x28, rfl, q29 | q29 | q29⟩ := p27
          · exfalso; omega
          · show RUN d_X9_rate 24 [(0, .inr (.inr (.inl 96))), (1, .inl a0)] [.inl x28] h _
            refine N_if_ne (a := x28.toInt) 29 rfl rfl rfl (fun c30 => ?_) (fun c30 => ?_)
            · exfalso; omega
            · refine R_iconst (-1) rfl rfl ?_
              exact R_iret rfl rfl rfl ⟨hI, fr, trivial, _, rfl, trivial⟩
          · show RUN d_X9_rate 24 [(0, .inr (.inr (.inl 96))), (1, .inl a0)] [.inl x28] h _
            refine N_if_ne (a := x28.toInt) 29 rfl rfl rfl (fun c31 => ?_) (fun c31 => ?_)
            · refine R_aload_n (k := 0) rfl rfl rfl ?_
              refine R_callV (v := .inr (.inr (.inl 96))) (As := []) (rest := []) rfl mt_9_i374 pp_X9_layRound (by decide) rfl rfl rfl (Nat.le_of_ble_eq_true rfl) (Nat.le_of_ble_eq_true rfl) ((k_X9_layRound h hI).mono (fun r32 h33 p34 => ?_))
              obtain ⟨hJ, fj, ⟨xq35, -⟩, rfl⟩ := p34
              have f36 := fj
              have fr := fr.trans fj (by decide)
              have hI := hJ
              have s37 : (h33.1 97 10).toInt = (h.1 97 10).toInt := by rw [(f36 97 (by decide)).1]
              have s38 : (h33.1 97 0).toInt = (h.1 97 0).toInt := by rw [(f36 97 (by decide)).1]
              have s39 : (h33.1 97 5).toInt = (h.1 97 5).toInt := by rw [(f36 97 (by decide)).1]
              show RUN d_X9_rate 33 [(0, .inr (.inr (.inl 96))), (1, .inl a0)] [] h33 _
              refine R_aload_n (k := 0) rfl rfl rfl ?_
              refine R_getf_i (j := 43) rfl ft_9_368 sh_96 rfl ?_
              refine N_i2l rfl (fun w40 q41 => ?_)
              refine R_aload_n (k := 0) rfl rfl rfl ?_
              refine R_getf_i (j := 42) rfl ft_9_355 sh_96 rfl ?_
              refine N_i2l rfl (fun w42 q43 => ?_)
              refine R_iload_n (k := 1) rfl rfl rfl ?_
              refine R_callS (As := [.inr (.inl w40), .inr (.inl w42), .inl a0]) (rest := []) rfl mt_9_i385 (by decide) pp_X9_part (by decide) rfl rfl (Nat.le_of_ble_eq_true rfl) (Nat.le_of_ble_eq_true rfl) ((k_X9_part h33 hI w40 w42 a0 (by omega) (by omega)).mono (fun r44 h45 p46 => ?_))
              obtain ⟨rfl, w47, rfl⟩ := p46
              show RUN d_X9_rate 47 [(0, .inr (.inr (.inl 96))), (1, .inl a0)] [.inr (.inl w47)] h33 _
              refine R_l2i rfl ?_
              refine N_any (fun x48 => ?_)
              exact R_iret rfl rfl rfl ⟨hI, fr, trivial, _, rfl, trivial⟩
            · exfalso; omega
        · exfalso; omega
abbrev q_X9_orders (h : PH)  : Option PV → PH → Prop := fun r h' => INV h' ∧ FR [96, 103, 104, 105, 106, 107, 108, 109, 110, 111, 112, 113, 114, 115, 116, 117, 118, 119, 120, 123] h h' ∧ (True) ∧ ∃ z : Int32, r = some (.inl z) ∧ ((True))
set_option maxHeartbeats 4000000 in
set_option maxRecDepth 100000 in
theorem k_X9_orders (h : PH) (hI : INV h)  : CALL d_X9_orders [.inr (.inr (.inl 96))] h (q_X9_orders h) := by
  show RUN d_X9_orders 0 [(0, .inr (.inr (.inl 96)))] [] h _
  have fr : FR [96, 103, 104, 105, 106, 107, 108, 109, 110, 111, 112, 113, 114, 115, 116, 117, 118, 119, 120, 123] h h := FR.rf _ _
  refine R_aload_n (k := 0) rfl rfl rfl ?_
  have b1 : (0 : Int) ≤ (h.1 97 0).toInt ∧ (h.1 97 0).toInt ≤ 60 := hI.1 97 0
  have e2 : 0 < (h.1 97 10).toInt → 1 ≤ (h.1 97 0).toInt := hI.2.2.2.2.2.1.2.1
  refine R_callV (v := .inr (.inr (.inl 96))) (As := []) (rest := []) rfl mt_9_i427 pp_X9_asksOrders (by decide) rfl rfl rfl (Nat.le_of_ble_eq_true rfl) (Nat.le_of_ble_eq_true rfl) ((k_X9_asksOrders h hI).mono (fun r3 h4 p5 => ?_))
  obtain ⟨hJ, fj, -, x6, rfl, q7 | q7⟩ := p5
  · have f8 := fj
    have fr := fr.trans fj (by decide)
    have hI := hJ
    have s9 : (h4.1 97 10).toInt = (h.1 97 10).toInt := by rw [(f8 97 (by decide)).1]
    have s10 : (h4.1 97 0).toInt = (h.1 97 0).toInt := by rw [(f8 97 (by decide)).1]
    show RUN d_X9_orders 4 [(0, .inr (.inr (.inl 96)))] [.inl x6] h4 _
    refine N_if_eq (a := x6.toInt) 14 rfl rfl rfl (fun c11 => ?_) (fun c11 => ?_)
    · refine R_bipush (-2) rfl rfl ?_
      exact R_iret rfl rfl rfl ⟨hI, fr, trivial, _, rfl, trivial⟩
    · exfalso; omega
  · have f12 := fj
    have fr := fr.trans fj (by decide)
    have hI := hJ
    have s13 : (h4.1 97 10).toInt = (h.1 97 10).toInt := by rw [(f12 97 (by decide)).1]
    have s14 : (h4.1 97 0).toInt = (h.1 97 0).toInt := by rw [(f12 97 (by decide)).1]
    show RUN d_X9_orders 4 [(0, .inr (.inr (.inl 96)))] [.inl x6] h4 _
    refine N_if_eq (a := x6.toInt) 14 rfl rfl rfl (fun c15 => ?_) (fun c15 => ?_)
    · exfalso; omega
    · refine R_aload_n (k := 0) rfl rfl rfl ?_
      refine R_getf_i (j := 46) rfl ft_9_408 sh_96 rfl ?_
      refine R_goto 16 rfl rfl ?_
      exact R_iret rfl rfl rfl ⟨hI, fr, trivial, _, rfl, trivial⟩
abbrev q_X9_best (h : PH)  : Option PV → PH → Prop := fun r h' => INV h' ∧ FR [96, 103, 104, 105, 106, 107, 108, 109, 110, 111, 112, 113, 114, 115, 116, 117, 118, 119, 120, 123] h h' ∧ (True) ∧ ∃ z : Int32, r = some (.inl z) ∧ ((True))
set_option maxHeartbeats 4000000 in
set_option maxRecDepth 100000 in
theorem k_X9_best (h : PH) (hI : INV h)  : CALL d_X9_best [.inr (.inr (.inl 96))] h (q_X9_best h) := by
  show RUN d_X9_best 0 [(0, .inr (.inr (.inl 96)))] [] h _
  have fr : FR [96, 103, 104, 105, 106, 107, 108, 109, 110, 111, 112, 113, 114, 115, 116, 117, 118, 119, 120, 123] h h := FR.rf _ _
  refine R_aload_n (k := 0) rfl rfl rfl ?_
  have b1 : (0 : Int) ≤ (h.1 97 0).toInt ∧ (h.1 97 0).toInt ≤ 60 := hI.1 97 0
  have e2 : 0 < (h.1 97 10).toInt → 1 ≤ (h.1 97 0).toInt := hI.2.2.2.2.2.1.2.1
  refine R_callV (v := .inr (.inr (.inl 96))) (As := []) (rest := []) rfl mt_9_i427 pp_X9_asksOrders (by decide) rfl rfl rfl (Nat.le_of_ble_eq_true rfl) (Nat.le_of_ble_eq_true rfl) ((k_X9_asksOrders h hI).mono (fun r3 h4 p5 => ?_))
  obtain ⟨hJ, fj, -, x6, rfl, q7 | q7⟩ := p5
  · have f8 := fj
    have fr := fr.trans fj (by decide)
    have hI := hJ
    have s9 : (h4.1 97 10).toInt = (h.1 97 10).toInt := by rw [(f8 97 (by decide)).1]
    have s10 : (h4.1 97 0).toInt = (h.1 97 0).toInt := by rw [(f8 97 (by decide)).1]
    show RUN d_X9_best 4 [(0, .inr (.inr (.inl 96)))] [.inl x6] h4 _
    refine N_if_eq (a := x6.toInt) 14 rfl rfl rfl (fun c11 => ?_) (fun c11 => ?_)
    · refine R_bipush (-2) rfl rfl ?_
      exact R_iret rfl rfl rfl ⟨hI, fr, trivial, _, rfl, trivial⟩
    · exfalso; omega
  · have f12 := fj
    have fr := fr.trans fj (by decide)
    have hI := hJ
    have s13 : (h4.1 97 10).toInt = (h.1 97 10).toInt := by rw [(f12 97 (by decide)).1]
    have s14 : (h4.1 97 0).toInt = (h.1 97 0).toInt := by rw [(f12 97 (by decide)).1]
    show RUN d_X9_best 4 [(0, .inr (.inr (.inl 96)))] [.inl x6] h4 _
    refine N_if_eq (a := x6.toInt) 14 rfl rfl rfl (fun c15 => ?_) (fun c15 => ?_)
    · exfalso; omega
    · refine R_aload_n (k := 0) rfl rfl rfl ?_
      refine R_getf_i (j := 47) rfl ft_9_414 sh_96 rfl ?_
      refine R_goto 16 rfl rfl ?_
      exact R_iret rfl rfl rfl ⟨hI, fr, trivial, _, rfl, trivial⟩
abbrev q_X9_place (h : PH) (a0 : Int32) : Option PV → PH → Prop := fun r h' => INV h' ∧ FR [96, 103, 104, 105, 106, 107, 108, 109, 110, 111, 112, 113, 114, 115, 116, 117, 118, 119, 120, 123] h h' ∧ (True) ∧ ∃ z : Int32, r = some (.inl z) ∧ ((True))
set_option maxHeartbeats 4000000 in
set_option maxRecDepth 100000 in
theorem k_X9_place (h : PH) (hI : INV h) (a0 : Int32) : CALL d_X9_place [.inr (.inr (.inl 96)), .inl a0] h (q_X9_place h a0) := by
  show RUN d_X9_place 0 [(0, .inr (.inr (.inl 96))), (1, .inl a0)] [] h _
  have b1 := i_rng a0
  have fr : FR [96, 103, 104, 105, 106, 107, 108, 109, 110, 111, 112, 113, 114, 115, 116, 117, 118, 119, 120, 123] h h := FR.rf _ _
  refine R_aload_n (k := 0) rfl rfl rfl ?_
  refine R_iload_n (k := 1) rfl rfl rfl ?_
  have b2 : (0 : Int) ≤ (h.1 97 5).toInt ∧ (h.1 97 5).toInt ≤ 6 := hI.1 97 5
  have b3 : (0 : Int) ≤ (h.1 97 0).toInt ∧ (h.1 97 0).toInt ≤ 60 := hI.1 97 0
  have e4 : 0 < (h.1 97 5).toInt → 1 ≤ (h.1 97 0).toInt := hI.2.2.2.2.2.1.2.2
  refine R_callV (v := .inr (.inr (.inl 96))) (As := [.inl a0]) (rest := []) rfl mt_9_i314 pp_X9_isHand (by decide) rfl rfl rfl (Nat.le_of_ble_eq_true rfl) (Nat.le_of_ble_eq_true rfl) ((k_X9_isHand h hI a0).mono (fun r5 h6 p7 => ?_))
  obtain ⟨rfl, x8, rfl, q9 | q9 | q9⟩ := p7
  · show RUN d_X9_place 5 [(0, .inr (.inr (.inl 96))), (1, .inl a0)] [.inl x8] h _
    refine N_if_eq (a := x8.toInt) 35 rfl rfl rfl (fun c10 => ?_) (fun c10 => ?_)
    · refine R_bipush (-2) rfl rfl ?_
      exact R_iret rfl rfl rfl ⟨hI, fr, trivial, _, rfl, trivial⟩
    · exfalso; omega
  · show RUN d_X9_place 5 [(0, .inr (.inr (.inl 96))), (1, .inl a0)] [.inl x8] h _
    refine N_if_eq (a := x8.toInt) 35 rfl rfl rfl (fun c11 => ?_) (fun c11 => ?_)
    · refine R_bipush (-2) rfl rfl ?_
      exact R_iret rfl rfl rfl ⟨hI, fr, trivial, _, rfl, trivial⟩
    · exfalso; omega
  · show RUN d_X9_place 5 [(0, .inr (.inr (.inl 96))), (1, .inl a0)] [.inl x8] h _
    refine N_if_eq (a := x8.toInt) 35 rfl rfl rfl (fun c12 => ?_) (fun c12 => ?_)
    · exfalso; omega
    · refine R_aload_n (k := 0) rfl rfl rfl ?_
      have e13 : 0 < (h.1 97 10).toInt → 1 ≤ (h.1 97 0).toInt := hI.2.2.2.2.2.1.2.1
      refine R_callV (v := .inr (.inr (.inl 96))) (As := []) (rest := []) rfl mt_9_i427 pp_X9_asksOrders (by decide) rfl rfl rfl (Nat.le_of_ble_eq_true rfl) (Nat.le_of_ble_eq_true rfl) ((k_X9_asksOrders h hI).mono (fun r14 h15 p16 => ?_))
      obtain ⟨hJ, fj, -, x17, rfl, q18 | q18⟩ := p16
      · have f19 := fj
        have fr := fr.trans fj (by decide)
        have hI := hJ
        have s20 : (h15.1 97 5).toInt = (h.1 97 5).toInt := by rw [(f19 97 (by decide)).1]
        have s21 : (h15.1 97 0).toInt = (h.1 97 0).toInt := by rw [(f19 97 (by decide)).1]
        have s22 : (h15.1 97 10).toInt = (h.1 97 10).toInt := by rw [(f19 97 (by decide)).1]
        show RUN d_X9_place 12 [(0, .inr (.inr (.inl 96))), (1, .inl a0)] [.inl x17] h15 _
        refine N_if_eq (a := x17.toInt) 35 rfl rfl rfl (fun c23 => ?_) (fun c23 => ?_)
        · refine R_bipush (-2) rfl rfl ?_
          exact R_iret rfl rfl rfl ⟨hI, fr, trivial, _, rfl, trivial⟩
        · exfalso; omega
      · have f24 := fj
        have fr := fr.trans fj (by decide)
        have hI := hJ
        have s25 : (h15.1 97 5).toInt = (h.1 97 5).toInt := by rw [(f24 97 (by decide)).1]
        have s26 : (h15.1 97 0).toInt = (h.1 97 0).toInt := by rw [(f24 97 (by decide)).1]
        have s27 : (h15.1 97 10).toInt = (h.1 97 10).toInt := by rw [(f24 97 (by decide)).1]
        show RUN d_X9_place 12 [(0, .inr (.inr (.inl 96))), (1, .inl a0)] [.inl x17] h15 _
        refine N_if_eq (a := x17.toInt) 35 rfl rfl rfl (fun c28 => ?_) (fun c28 => ?_)
        · exfalso; omega
        · refine R_aload_n (k := 0) rfl rfl rfl ?_
          refine R_getf_i (j := 46) rfl ft_9_408 sh_96 rfl ?_
          refine N_if_ne (a := (h15.1 96 46).toInt) 26 rfl rfl rfl (fun c29 => ?_) (fun c29 => ?_)
          · refine R_aload_n (k := 0) rfl rfl rfl ?_
            refine R_getf_r (j := 45) rfl ft_9_94 sh_96 rfl ?_
            refine R_iload_n (k := 1) rfl rfl rfl ?_
            refine R_iald rfl sh_123 ⟨by omega, by omega⟩ ?_
            refine N_any (fun x30 => ?_)
            refine R_goto 37 rfl rfl ?_
            exact R_iret rfl rfl rfl ⟨hI, fr, trivial, _, rfl, trivial⟩
          · refine R_iconst (-1) rfl rfl ?_
            refine R_goto 37 rfl rfl ?_
            exact R_iret rfl rfl rfl ⟨hI, fr, trivial, _, rfl, trivial⟩
abbrev q_X9_soonest (h : PH)  : Option PV → PH → Prop := fun r h' => INV h' ∧ FR [96, 103, 104, 105, 106, 107, 108, 109, 110, 111, 112, 113, 114, 115, 116, 117, 118, 119, 120, 123] h h' ∧ (True) ∧ ∃ z : Int32, r = some (.inl z) ∧ ((True))
set_option maxHeartbeats 4000000 in
set_option maxRecDepth 100000 in
theorem k_X9_soonest (h : PH) (hI : INV h)  : CALL d_X9_soonest [.inr (.inr (.inl 96))] h (q_X9_soonest h) := by
  show RUN d_X9_soonest 0 [(0, .inr (.inr (.inl 96)))] [] h _
  have fr : FR [96, 103, 104, 105, 106, 107, 108, 109, 110, 111, 112, 113, 114, 115, 116, 117, 118, 119, 120, 123] h h := FR.rf _ _
  refine R_aload_n (k := 0) rfl rfl rfl ?_
  have b1 : (0 : Int) ≤ (h.1 97 0).toInt ∧ (h.1 97 0).toInt ≤ 60 := hI.1 97 0
  have e2 : 0 < (h.1 97 10).toInt → 1 ≤ (h.1 97 0).toInt := hI.2.2.2.2.2.1.2.1
  refine R_callV (v := .inr (.inr (.inl 96))) (As := []) (rest := []) rfl mt_9_i427 pp_X9_asksOrders (by decide) rfl rfl rfl (Nat.le_of_ble_eq_true rfl) (Nat.le_of_ble_eq_true rfl) ((k_X9_asksOrders h hI).mono (fun r3 h4 p5 => ?_))
  obtain ⟨hJ, fj, -, x6, rfl, q7 | q7⟩ := p5
  · have f8 := fj
    have fr := fr.trans fj (by decide)
    have hI := hJ
    have s9 : (h4.1 97 10).toInt = (h.1 97 10).toInt := by rw [(f8 97 (by decide)).1]
    have s10 : (h4.1 97 0).toInt = (h.1 97 0).toInt := by rw [(f8 97 (by decide)).1]
    show RUN d_X9_soonest 4 [(0, .inr (.inr (.inl 96)))] [.inl x6] h4 _
    refine N_if_eq (a := x6.toInt) 28 rfl rfl rfl (fun c11 => ?_) (fun c11 => ?_)
    · refine R_bipush (-2) rfl rfl ?_
      exact R_iret rfl rfl rfl ⟨hI, fr, trivial, _, rfl, trivial⟩
    · exfalso; omega
  · have f12 := fj
    have fr := fr.trans fj (by decide)
    have hI := hJ
    have s13 : (h4.1 97 10).toInt = (h.1 97 10).toInt := by rw [(f12 97 (by decide)).1]
    have s14 : (h4.1 97 0).toInt = (h.1 97 0).toInt := by rw [(f12 97 (by decide)).1]
    show RUN d_X9_soonest 4 [(0, .inr (.inr (.inl 96)))] [.inl x6] h4 _
    refine N_if_eq (a := x6.toInt) 28 rfl rfl rfl (fun c15 => ?_) (fun c15 => ?_)
    · exfalso; omega
    · refine R_aload_n (k := 0) rfl rfl rfl ?_
      refine R_getf_i (j := 48) rfl ft_9_411 sh_96 rfl ?_
      refine R_ldcw_i (x := 1000000000) rfl kt_9_417 ?_
      refine N_icmp_ne (a := (h4.1 96 48).toInt) (b := 1000000000) 21 rfl rfl rfl (by decide) (fun c16 => ?_) (fun c16 => ?_)
      · refine R_aload_n (k := 0) rfl rfl rfl ?_
        refine R_getf_i (j := 48) rfl ft_9_411 sh_96 rfl ?_
        refine R_goto 30 rfl rfl ?_
        exact R_iret rfl rfl rfl ⟨hI, fr, trivial, _, rfl, trivial⟩
      · refine R_iconst (-1) rfl rfl ?_
        refine R_goto 30 rfl rfl ?_
        exact R_iret rfl rfl rfl ⟨hI, fr, trivial, _, rfl, trivial⟩
abbrev q_X9_letOf (h : PH)  : Option PV → PH → Prop := fun r h' => INV h' ∧ FR [96, 103, 104, 105, 106] h h' ∧ (True) ∧ ∃ z : Int32, r = some (.inl z) ∧ (((-1) ≤ z.toInt ∧ z.toInt ≤ 31))
set_option maxHeartbeats 4000000 in
set_option maxRecDepth 100000 in
theorem k_X9_letOf (h : PH) (hI : INV h)  : CALL d_X9_letOf [.inr (.inr (.inl 96))] h (q_X9_letOf h) := by
  show RUN d_X9_letOf 0 [(0, .inr (.inr (.inl 96)))] [] h _
  have fr : FR [96, 103, 104, 105, 106] h h := FR.rf _ _
  refine R_iconst (-1) rfl rfl ?_
  refine R_istore_n (k := 1) rfl [(1, .inl (-1)), (0, .inr (.inr (.inl 96)))] rfl rfl (by decide) ?_
  refine R_iconst 0 rfl rfl ?_
  refine R_istore_n (k := 2) rfl [(2, .inl 0), (1, .inl (-1)), (0, .inr (.inr (.inl 96)))] rfl rfl (by decide) ?_
  have lp2 : ∀ (n1 : Nat) (h3 : PH) (x5 : Int32) (x6 : Int32), INV h3 → FR [96, 103, 104, 105, 106] h h3 → FR [96, 103, 104, 105, 106] h h3 → (-1) ≤ x5.toInt ∧ x5.toInt ≤ 31 → 0 ≤ x6.toInt ∧ x6.toInt ≤ 32 → x5.toInt ≤ x6.toInt + (-1) → (32 - x6.toInt).toNat < n1 → RUN d_X9_letOf 4 [(2, .inl x6), (1, .inl x5), (0, .inr (.inr (.inl 96)))] [] h3 (q_X9_letOf h) := by
    intro n1
    induction n1 with
    | zero => intro h3 x5 x6 m8 m9 m10 m11 m12 m13 hz; exact absurd hz (Nat.not_lt_zero _)
    | succ n1 ih7 =>
      intro h3 x5 x6 hI fr fl4 m11 m12 m13 hz
      refine R_iload_n (k := 2) rfl rfl rfl ?_
      refine R_iconst 1 rfl rfl ?_
      refine R_aload_n (k := 0) rfl rfl rfl ?_
      refine R_getf_r (j := 1) rfl ft_9_9 sh_96 rfl ?_
      refine R_bipush 6 rfl rfl ?_
      refine R_iald rfl sh_97 (by decide) ?_
      have b14 : (0 : Int) ≤ (h3.1 97 6).toInt ∧ (h3.1 97 6).toInt ≤ 5 := hI.1 97 6
      show RUN d_X9_letOf 13 [(2, .inl x6), (1, .inl x5), (0, .inr (.inr (.inl 96)))] [.inl (h3.1 97 6), .inl 1, .inl x6] h3 _
      refine N_ishl1 (b := (h3.1 97 6).toInt) rfl rfl (by omega) (fun x15 q16 => ?_)
      refine N_icmp_ge (a := x6.toInt) (b := x15.toInt) 49 rfl rfl rfl rfl (fun c17 => ?_) (fun c17 => ?_)
      · refine R_iload_n (k := 1) rfl rfl rfl ?_
        exact R_iret rfl rfl rfl ⟨hI, fr, trivial, _, rfl, by omega⟩
      · refine R_iload_n (k := 1) rfl rfl rfl ?_
        refine R_iconst (-1) rfl rfl ?_
        refine N_icmp_eq (a := x5.toInt) (b := (-1)) 33 rfl rfl rfl (by decide) (fun c18 => ?_) (fun c18 => ?_)
        · refine R_aload_n (k := 0) rfl rfl rfl ?_
          refine R_iload_n (k := 2) rfl rfl rfl ?_
          refine R_callV (v := .inr (.inr (.inl 96))) (As := [.inl x6]) (rest := []) rfl mt_9_i430 pp_X9_hasOrder (by decide) rfl rfl rfl (Nat.le_of_ble_eq_true rfl) (Nat.le_of_ble_eq_true rfl) ((k_X9_hasOrder h3 hI x6 (by omega)).mono (fun r19 h20 p21 => ?_))
          obtain ⟨hJ, fj, -, x22, rfl, q23 | q23⟩ := p21
          · have f24 := fj
            have fr := fr.trans fj (by decide)
            have hI := hJ
            have fl4 : FR [96, 103, 104, 105, 106] h h20 := fl4.trans fj (by decide)
            have s25 : (h20.1 97 6).toInt = (h3.1 97 6).toInt := by rw [(f24 97 (by decide)).1]
            show RUN d_X9_letOf 38 [(2, .inl x6), (1, .inl x5), (0, .inr (.inr (.inl 96)))] [.inl x22] h20 _
            refine N_if_eq (a := x22.toInt) 43 rfl rfl rfl (fun c26 => ?_) (fun c26 => ?_)
            · refine N_iinc (a := x6.toInt) (c := 1) (fun w => [(2, .inl w), (1, .inl x5), (0, .inr (.inr (.inl 96)))]) rfl rfl (fun _ => rfl) (by decide) rfl (by decide) (by omega) (fun x27 q28 => ?_)
              refine R_goto 4 rfl rfl ?_
              exact RUN_weak (psub_cons rfl (psub_cons rfl (psub_cons rfl (psub_nil _)))) (ih7 h20 x5 x27 hI fr fl4 (by omega) (by omega) (by omega) (by omega))
            · exfalso; omega
          · have f29 := fj
            have fr := fr.trans fj (by decide)
            have hI := hJ
            have fl4 : FR [96, 103, 104, 105, 106] h h20 := fl4.trans fj (by decide)
            have s30 : (h20.1 97 6).toInt = (h3.1 97 6).toInt := by rw [(f29 97 (by decide)).1]
            show RUN d_X9_letOf 38 [(2, .inl x6), (1, .inl x5), (0, .inr (.inr (.inl 96)))] [.inl x22] h20 _
            refine N_if_eq (a := x22.toInt) 43 rfl rfl rfl (fun c31 => ?_) (fun c31 => ?_)
            · exfalso; omega
            · refine R_iload_n (k := 2) rfl rfl rfl ?_
              refine R_istore_n (k := 1) rfl [(1, .inl x6), (2, .inl x6), (0, .inr (.inr (.inl 96)))] rfl rfl (by decide) ?_
              refine N_iinc (a := x6.toInt) (c := 1) (fun w => [(2, .inl w), (1, .inl x6), (0, .inr (.inr (.inl 96)))]) rfl rfl (fun _ => rfl) (by decide) rfl (by decide) (by omega) (fun x32 q33 => ?_)
              refine R_goto 4 rfl rfl ?_
              exact RUN_weak (psub_cons rfl (psub_cons rfl (psub_cons rfl (psub_nil _)))) (ih7 h20 x6 x32 hI fr fl4 (by omega) (by omega) (by omega) (by omega))
        · refine R_iload_n (k := 2) rfl rfl rfl ?_
          refine R_callS (As := [.inl x6]) (rest := []) rfl mt_9_i336 (by decide) pp_X9_bits (by decide) rfl rfl (Nat.le_of_ble_eq_true rfl) (Nat.le_of_ble_eq_true rfl) ((k_X9_bits h3 hI x6).mono (fun r34 h35 p36 => ?_))
          obtain ⟨rfl, x37, rfl, q38⟩ := p36
          show RUN d_X9_letOf 26 [(2, .inl x6), (1, .inl x5), (0, .inr (.inr (.inl 96)))] [.inl x37] h3 _
          refine R_iload_n (k := 1) rfl rfl rfl ?_
          refine R_callS (As := [.inl x5]) (rest := [.inl x37]) rfl mt_9_i336 (by decide) pp_X9_bits (by decide) rfl rfl (Nat.le_of_ble_eq_true rfl) (Nat.le_of_ble_eq_true rfl) ((k_X9_bits h3 hI x5).mono (fun r39 h40 p41 => ?_))
          obtain ⟨rfl, x42, rfl, q43⟩ := p41
          show RUN d_X9_letOf 30 [(2, .inl x6), (1, .inl x5), (0, .inr (.inr (.inl 96)))] [.inl x42, .inl x37] h3 _
          refine N_icmp_ge (a := x37.toInt) (b := x42.toInt) 43 rfl rfl rfl rfl (fun c44 => ?_) (fun c44 => ?_)
          · refine N_iinc (a := x6.toInt) (c := 1) (fun w => [(2, .inl w), (1, .inl x5), (0, .inr (.inr (.inl 96)))]) rfl rfl (fun _ => rfl) (by decide) rfl (by decide) (by omega) (fun x45 q46 => ?_)
            refine R_goto 4 rfl rfl ?_
            exact RUN_weak (psub_cons rfl (psub_cons rfl (psub_cons rfl (psub_nil _)))) (ih7 h3 x5 x45 hI fr fl4 (by omega) (by omega) (by omega) (by omega))
          · refine R_aload_n (k := 0) rfl rfl rfl ?_
            refine R_iload_n (k := 2) rfl rfl rfl ?_
            refine R_callV (v := .inr (.inr (.inl 96))) (As := [.inl x6]) (rest := []) rfl mt_9_i430 pp_X9_hasOrder (by decide) rfl rfl rfl (Nat.le_of_ble_eq_true rfl) (Nat.le_of_ble_eq_true rfl) ((k_X9_hasOrder h3 hI x6 (by omega)).mono (fun r47 h48 p49 => ?_))
            obtain ⟨hJ, fj, -, x50, rfl, q51 | q51⟩ := p49
            · have f52 := fj
              have fr := fr.trans fj (by decide)
              have hI := hJ
              have fl4 : FR [96, 103, 104, 105, 106] h h48 := fl4.trans fj (by decide)
              have s53 : (h48.1 97 6).toInt = (h3.1 97 6).toInt := by rw [(f52 97 (by decide)).1]
              show RUN d_X9_letOf 38 [(2, .inl x6), (1, .inl x5), (0, .inr (.inr (.inl 96)))] [.inl x50] h48 _
              refine N_if_eq (a := x50.toInt) 43 rfl rfl rfl (fun c54 => ?_) (fun c54 => ?_)
              · refine N_iinc (a := x6.toInt) (c := 1) (fun w => [(2, .inl w), (1, .inl x5), (0, .inr (.inr (.inl 96)))]) rfl rfl (fun _ => rfl) (by decide) rfl (by decide) (by omega) (fun x55 q56 => ?_)
                refine R_goto 4 rfl rfl ?_
                exact RUN_weak (psub_cons rfl (psub_cons rfl (psub_cons rfl (psub_nil _)))) (ih7 h48 x5 x55 hI fr fl4 (by omega) (by omega) (by omega) (by omega))
              · exfalso; omega
            · have f57 := fj
              have fr := fr.trans fj (by decide)
              have hI := hJ
              have fl4 : FR [96, 103, 104, 105, 106] h h48 := fl4.trans fj (by decide)
              have s58 : (h48.1 97 6).toInt = (h3.1 97 6).toInt := by rw [(f57 97 (by decide)).1]
              show RUN d_X9_letOf 38 [(2, .inl x6), (1, .inl x5), (0, .inr (.inr (.inl 96)))] [.inl x50] h48 _
              refine N_if_eq (a := x50.toInt) 43 rfl rfl rfl (fun c59 => ?_) (fun c59 => ?_)
              · exfalso; omega
              · refine R_iload_n (k := 2) rfl rfl rfl ?_
                refine R_istore_n (k := 1) rfl [(1, .inl x6), (2, .inl x6), (0, .inr (.inr (.inl 96)))] rfl rfl (by decide) ?_
                refine N_iinc (a := x6.toInt) (c := 1) (fun w => [(2, .inl w), (1, .inl x6), (0, .inr (.inr (.inl 96)))]) rfl rfl (fun _ => rfl) (by decide) rfl (by decide) (by omega) (fun x60 q61 => ?_)
                refine R_goto 4 rfl rfl ?_
                exact RUN_weak (psub_cons rfl (psub_cons rfl (psub_cons rfl (psub_nil _)))) (ih7 h48 x6 x60 hI fr fl4 (by omega) (by omega) (by omega) (by omega))
  have k62 : ((-1) : Int32).toInt = (-1) := by decide
  have k63 : (0 : Int32).toInt = 0 := by decide
  exact lp2 _ h ((-1) : Int32) (0 : Int32) hI fr (FR.rf _ _) (by decide) (by decide) (by omega) (Nat.lt_succ_self _)
abbrev q_X9_lets (h : PH)  : Option PV → PH → Prop := fun r h' => INV h' ∧ FR [96, 103, 104, 105, 106] h h' ∧ (True) ∧ ∃ z : Int32, r = some (.inl z) ∧ ((True))
set_option maxHeartbeats 4000000 in
set_option maxRecDepth 100000 in
theorem k_X9_lets (h : PH) (hI : INV h)  : CALL d_X9_lets [.inr (.inr (.inl 96))] h (q_X9_lets h) := by
  show RUN d_X9_lets 0 [(0, .inr (.inr (.inl 96)))] [] h _
  have fr : FR [96, 103, 104, 105, 106] h h := FR.rf _ _
  refine R_aload_n (k := 0) rfl rfl rfl ?_
  have b1 : (0 : Int) ≤ (h.1 97 0).toInt ∧ (h.1 97 0).toInt ≤ 60 := hI.1 97 0
  have e2 : 0 < (h.1 97 10).toInt → 1 ≤ (h.1 97 0).toInt := hI.2.2.2.2.2.1.2.1
  refine R_callV (v := .inr (.inr (.inl 96))) (As := []) (rest := []) rfl mt_9_i301 pp_X9_isBrigade (by decide) rfl rfl rfl (Nat.le_of_ble_eq_true rfl) (Nat.le_of_ble_eq_true rfl) ((k_X9_isBrigade h hI).mono (fun r3 h4 p5 => ?_))
  obtain ⟨rfl, x6, rfl, q7 | q7⟩ := p5
  · show RUN d_X9_lets 4 [(0, .inr (.inr (.inl 96)))] [.inl x6] h _
    refine N_if_eq (a := x6.toInt) 17 rfl rfl rfl (fun c8 => ?_) (fun c8 => ?_)
    · refine R_bipush (-2) rfl rfl ?_
      exact R_iret rfl rfl rfl ⟨hI, fr, trivial, _, rfl, trivial⟩
    · exfalso; omega
  · show RUN d_X9_lets 4 [(0, .inr (.inr (.inl 96)))] [.inl x6] h _
    refine N_if_eq (a := x6.toInt) 17 rfl rfl rfl (fun c9 => ?_) (fun c9 => ?_)
    · exfalso; omega
    · refine R_aload_n (k := 0) rfl rfl rfl ?_
      refine R_callV (v := .inr (.inr (.inl 96))) (As := []) (rest := []) rfl mt_9_i433 pp_X9_letOf (by decide) rfl rfl rfl (Nat.le_of_ble_eq_true rfl) (Nat.le_of_ble_eq_true rfl) ((k_X9_letOf h hI).mono (fun r10 h11 p12 => ?_))
      obtain ⟨hJ, fj, -, x13, rfl, q14⟩ := p12
      have f15 := fj
      have fr := fr.trans fj (by decide)
      have hI := hJ
      have s16 : (h11.1 97 10).toInt = (h.1 97 10).toInt := by rw [(f15 97 (by decide)).1]
      have s17 : (h11.1 97 0).toInt = (h.1 97 0).toInt := by rw [(f15 97 (by decide)).1]
      show RUN d_X9_lets 11 [(0, .inr (.inr (.inl 96)))] [.inl x13] h11 _
      refine R_callS (As := [.inl x13]) (rest := []) rfl mt_9_i336 (by decide) pp_X9_bits (by decide) rfl rfl (Nat.le_of_ble_eq_true rfl) (Nat.le_of_ble_eq_true rfl) ((k_X9_bits h11 hI x13).mono (fun r18 h19 p20 => ?_))
      obtain ⟨rfl, x21, rfl, q22⟩ := p20
      show RUN d_X9_lets 14 [(0, .inr (.inr (.inl 96)))] [.inl x21] h11 _
      refine R_goto 19 rfl rfl ?_
      exact R_iret rfl rfl rfl ⟨hI, fr, trivial, _, rfl, trivial⟩
abbrev q_X9_let (h : PH)  : Option PV → PH → Prop := fun r h' => INV h' ∧ FR [96, 103, 104, 105, 106] h h' ∧ (True) ∧ ∃ z : Int32, r = some (.inl z) ∧ (((-2) ≤ z.toInt ∧ z.toInt ≤ 31))
set_option maxHeartbeats 4000000 in
set_option maxRecDepth 100000 in
theorem k_X9_let (h : PH) (hI : INV h)  : CALL d_X9_let [.inr (.inr (.inl 96))] h (q_X9_let h) := by
  show RUN d_X9_let 0 [(0, .inr (.inr (.inl 96)))] [] h _
  have fr : FR [96, 103, 104, 105, 106] h h := FR.rf _ _
  refine R_aload_n (k := 0) rfl rfl rfl ?_
  have b1 : (0 : Int) ≤ (h.1 97 0).toInt ∧ (h.1 97 0).toInt ≤ 60 := hI.1 97 0
  have e2 : 0 < (h.1 97 10).toInt → 1 ≤ (h.1 97 0).toInt := hI.2.2.2.2.2.1.2.1
  refine R_callV (v := .inr (.inr (.inl 96))) (As := []) (rest := []) rfl mt_9_i301 pp_X9_isBrigade (by decide) rfl rfl rfl (Nat.le_of_ble_eq_true rfl) (Nat.le_of_ble_eq_true rfl) ((k_X9_isBrigade h hI).mono (fun r3 h4 p5 => ?_))
  obtain ⟨rfl, x6, rfl, q7 | q7⟩ := p5
  · show RUN d_X9_let 4 [(0, .inr (.inr (.inl 96)))] [.inl x6] h _
    refine N_if_eq (a := x6.toInt) 14 rfl rfl rfl (fun c8 => ?_) (fun c8 => ?_)
    · refine R_bipush (-2) rfl rfl ?_
      exact R_iret rfl rfl rfl ⟨hI, fr, trivial, _, rfl, by rw [show ((-2) : Int32).toInt = (-2) from rfl] <;> omega⟩
    · exfalso; omega
  · show RUN d_X9_let 4 [(0, .inr (.inr (.inl 96)))] [.inl x6] h _
    refine N_if_eq (a := x6.toInt) 14 rfl rfl rfl (fun c9 => ?_) (fun c9 => ?_)
    · exfalso; omega
    · refine R_aload_n (k := 0) rfl rfl rfl ?_
      refine R_callV (v := .inr (.inr (.inl 96))) (As := []) (rest := []) rfl mt_9_i433 pp_X9_letOf (by decide) rfl rfl rfl (Nat.le_of_ble_eq_true rfl) (Nat.le_of_ble_eq_true rfl) ((k_X9_letOf h hI).mono (fun r10 h11 p12 => ?_))
      obtain ⟨hJ, fj, -, x13, rfl, q14⟩ := p12
      have f15 := fj
      have fr := fr.trans fj (by decide)
      have hI := hJ
      have s16 : (h11.1 97 10).toInt = (h.1 97 10).toInt := by rw [(f15 97 (by decide)).1]
      have s17 : (h11.1 97 0).toInt = (h.1 97 0).toInt := by rw [(f15 97 (by decide)).1]
      show RUN d_X9_let 11 [(0, .inr (.inr (.inl 96)))] [.inl x13] h11 _
      refine R_goto 16 rfl rfl ?_
      exact R_iret rfl rfl rfl ⟨hI, fr, trivial, _, rfl, by omega⟩
abbrev q_X3_isSeen (h : PH) (a0 : Int64) (a2 : Int32) : Option PV → PH → Prop := fun r h' => h = h' ∧ ∃ z : Int32, r = some (.inl z) ∧ ((z.toInt = 1) ∨ (z.toInt = 0))
set_option maxHeartbeats 4000000 in
set_option maxRecDepth 100000 in
theorem k_X3_isSeen (h : PH) (hI : INV h) (a0 : Int64) (a2 : Int32) (h2a : 0 ≤ a2.toInt ∧ a2.toInt ≤ 3) : CALL d_X3_isSeen [.inr (.inl a0), .inr (.inr (.inl 66)), .inl a2] h (q_X3_isSeen h a0 a2) := by
  show RUN d_X3_isSeen 0 [(0, .inr (.inl a0)), (2, .inr (.inr (.inl 66))), (3, .inl a2)] [] h _
  refine R_iconst 0 rfl rfl ?_
  refine R_istore (k := 4) [(4, .inl 0), (0, .inr (.inl a0)), (2, .inr (.inr (.inl 66))), (3, .inl a2)] rfl rfl (by decide) ?_
  have lp2 : ∀ (n1 : Nat) (x3 : Int32), 0 ≤ x3.toInt ∧ x3.toInt ≤ 60 → (60 - x3.toInt).toNat < n1 → RUN d_X3_isSeen 3 [(4, .inl x3), (0, .inr (.inl a0)), (2, .inr (.inr (.inl 66))), (3, .inl a2)] [] h (q_X3_isSeen h a0 a2) := by
    intro n1
    induction n1 with
    | zero => intro x3 m5 hz; exact absurd hz (Nat.not_lt_zero _)
    | succ n1 ih4 =>
      intro x3 m5 hz
      refine R_iload (k := 4) rfl rfl ?_
      refine R_iconst 1 rfl rfl ?_
      refine N_iadd (a := x3.toInt) (b := 1) rfl rfl (by decide) (by omega) (fun x6 q7 => ?_)
      refine R_aload_n (k := 2) rfl rfl rfl ?_
      refine R_getf_r (j := 1) rfl ft_3_106 sh_66 rfl ?_
      refine R_iload_n (k := 3) rfl rfl rfl ?_
      refine R_iald rfl sh_68 ⟨by omega, by omega⟩ ?_
      refine N_bd (lo := (-1)) (hi := 60) (hI.1 68 _) (fun x8 q9 => ?_)
      refine N_icmp_ge (a := x6.toInt) (b := x8.toInt) 49 rfl rfl rfl rfl (fun c10 => ?_) (fun c10 => ?_)
      · refine R_iconst 1 rfl rfl ?_
        exact R_iret rfl rfl rfl ⟨rfl, _, rfl, by rw [show (1 : Int32).toInt = 1 from rfl] <;> omega⟩
      · refine R_lload_n (k := 0) rfl rfl rfl ?_
        refine R_aload_n (k := 2) rfl rfl rfl ?_
        refine R_iload_n (k := 3) rfl rfl rfl ?_
        refine R_iload (k := 4) rfl rfl ?_
        refine R_callV (v := .inr (.inr (.inl 66))) (As := [.inl a2, .inl x3]) (rest := [.inr (.inl a0)]) rfl mt_3_i111 pp_X5_cellOf (by decide) rfl rfl rfl (Nat.le_of_ble_eq_true rfl) (Nat.le_of_ble_eq_true rfl) ((k_X5_cellOf h hI a2 x3 (by omega) (by omega)).mono (fun r11 h12 p13 => ?_))
        obtain ⟨rfl, w14, rfl⟩ := p13
        show RUN d_X3_isSeen 24 [(4, .inl x3), (0, .inr (.inl a0)), (2, .inr (.inr (.inl 66))), (3, .inl a2)] [.inr (.inl w14), .inr (.inl a0)] h _
        refine R_callS (As := [.inr (.inl a0), .inr (.inl w14)]) (rest := []) rfl mt_3_i95 (by decide) pp_X3_thrownTo (by decide) rfl rfl (Nat.le_of_ble_eq_true rfl) (Nat.le_of_ble_eq_true rfl) ((k_X3_thrownTo h hI a0 w14).mono (fun r15 h16 p17 => ?_))
        obtain ⟨rfl, x20, rfl, q21, zq18, zq19, -⟩ := p17
        show RUN d_X3_isSeen 27 [(4, .inl x3), (0, .inr (.inl a0)), (2, .inr (.inr (.inl 66))), (3, .inl a2)] [.inl x20] h _
        refine N_i2l rfl (fun w22 q23 => ?_)
        refine R_aload_n (k := 2) rfl rfl rfl ?_
        refine R_iload_n (k := 3) rfl rfl rfl ?_
        refine R_iload (k := 4) rfl rfl ?_
        refine R_iconst 1 rfl rfl ?_
        refine N_iadd (a := x3.toInt) (b := 1) rfl rfl (by decide) (by omega) (fun x24 q25 => ?_)
        refine R_callV (v := .inr (.inr (.inl 66))) (As := [.inl a2, .inl x24]) (rest := [.inr (.inl w22)]) rfl mt_3_i111 pp_X5_cellOf (by decide) rfl rfl rfl (Nat.le_of_ble_eq_true rfl) (Nat.le_of_ble_eq_true rfl) ((k_X5_cellOf h hI a2 x24 (by omega) (by omega)).mono (fun r26 h27 p28 => ?_))
        obtain ⟨rfl, w29, rfl⟩ := p28
        show RUN d_X3_isSeen 37 [(4, .inl x3), (0, .inr (.inl a0)), (2, .inr (.inr (.inl 66))), (3, .inl a2)] [.inr (.inl w29), .inr (.inl w22)] h _
        refine N_lcmp (a := w22.toInt) (b := w29.toInt) rfl rfl rfl (fun x30 q31 => ?_)
        refine N_if_eq (a := x30.toInt) 43 rfl rfl rfl (fun c32 => ?_) (fun c32 => ?_)
        · refine N_iinc (a := x3.toInt) (c := 2) (fun w => [(4, .inl w), (0, .inr (.inl a0)), (2, .inr (.inr (.inl 66))), (3, .inl a2)]) rfl rfl (fun _ => rfl) (by decide) rfl (by decide) (by omega) (fun x33 q34 => ?_)
          refine R_goto 3 rfl rfl ?_
          exact RUN_weak (psub_cons rfl (psub_cons rfl (psub_cons rfl (psub_cons rfl (psub_nil _))))) (ih4 x33 (by omega) (by omega))
        · refine R_iconst 0 rfl rfl ?_
          exact R_iret rfl rfl rfl ⟨rfl, _, rfl, by rw [show (0 : Int32).toInt = 0 from rfl] <;> omega⟩
  exact lp2 _ (0 : Int32) (by decide) (Nat.lt_succ_self _)
abbrev q_X3_choose (h : PH) (a1 : Int32) : Option PV → PH → Prop := fun r h' => INV h' ∧ FR [87, 92] h h' ∧ (True) ∧ r = none
set_option maxHeartbeats 4000000 in
set_option maxRecDepth 100000 in
theorem k_X3_choose (h : PH) (hI : INV h) (a1 : Int32) (h1a : 0 ≤ a1.toInt ∧ a1.toInt ≤ 3) : CALL d_X3_choose [.inr (.inr (.inl 87)), .inr (.inr (.inl 66)), .inl a1] h (q_X3_choose h a1) := by
  show RUN d_X3_choose 0 [(0, .inr (.inr (.inl 87))), (1, .inr (.inr (.inl 66))), (2, .inl a1)] [] h _
  have fr : FR [87, 92] h h := FR.rf _ _
  refine R_aload_n (k := 0) rfl rfl rfl ?_
  refine R_iconst 0 rfl rfl ?_
  refine K_putf (j := 8) (lo := 0) (hi' := 720) rfl ft_3_38 sh_87 rfl hI (by decide) rfl (by decide) fr (by decide) (fun h1 g2 hI fr => ?_)
  have s3 : (h1.1 87 8).toInt = 0 := by rw [g2, wI_is]; rfl
  refine R_iconst 0 rfl rfl ?_
  refine R_istore_n (k := 3) rfl [(3, .inl 0), (0, .inr (.inr (.inl 87))), (1, .inr (.inr (.inl 66))), (2, .inl a1)] rfl rfl (by decide) ?_
  have lp5 : ∀ (n4 : Nat) (h6 : PH) (x8 : Int32), INV h6 → FR [87, 92] h h6 → FR [87, 92] h1 h6 → 0 ≤ x8.toInt ∧ x8.toInt ≤ 720 → 0 ≤ (h6.1 87 8).toInt ∧ (h6.1 87 8).toInt ≤ 720 → (h6.1 87 8).toInt ≤ x8.toInt + 0 → (720 - x8.toInt).toNat < n4 → RUN d_X3_choose 7 [(3, .inl x8), (0, .inr (.inr (.inl 87))), (1, .inr (.inr (.inl 66))), (2, .inl a1)] [] h6 (q_X3_choose h a1) := by
    intro n4
    induction n4 with
    | zero => intro h6 x8 m10 m11 m12 m13 m14 m15 hz; exact absurd hz (Nat.not_lt_zero _)
    | succ n4 ih9 =>
      intro h6 x8 hI fr fl7 m13 m14 m15 hz
      refine R_iload_n (k := 3) rfl rfl rfl ?_
      refine R_aload_n (k := 0) rfl rfl rfl ?_
      refine R_getf_i (j := 6) rfl ft_3_31 sh_87 rfl ?_
      have b16 : (0 : Int) ≤ (h6.1 87 6).toInt ∧ (h6.1 87 6).toInt ≤ 720 := hI.1 87 6
      refine N_icmp_ge (a := x8.toInt) (b := (h6.1 87 6).toInt) 55 rfl rfl rfl rfl (fun c17 => ?_) (fun c17 => ?_)
      · exact R_vret rfl rfl ⟨hI, fr, trivial, rfl⟩
      · refine R_aload_n (k := 0) rfl rfl rfl ?_
        refine R_getf_r (j := 3) rfl ft_3_21 sh_87 rfl ?_
        refine R_iload_n (k := 3) rfl rfl rfl ?_
        refine R_lald rfl sh_91 ⟨by omega, by omega⟩ ?_
        refine N_anyL (fun w18 => ?_)
        refine R_aload_n (k := 1) rfl rfl rfl ?_
        refine R_iload_n (k := 2) rfl rfl rfl ?_
        refine R_callS (As := [.inr (.inl w18), .inr (.inr (.inl 66)), .inl a1]) (rest := []) rfl mt_3_i88 (by decide) pp_X3_isSeen (by decide) rfl rfl (Nat.le_of_ble_eq_true rfl) (Nat.le_of_ble_eq_true rfl) ((k_X3_isSeen h6 hI w18 a1 (by omega)).mono (fun r19 h20 p21 => ?_))
        obtain ⟨rfl, x22, rfl, q23 | q23⟩ := p21
        · show RUN d_X3_choose 26 [(3, .inl x8), (0, .inr (.inr (.inl 87))), (1, .inr (.inr (.inl 66))), (2, .inl a1)] [.inl x22] h6 _
          refine N_if_eq (a := x22.toInt) 49 rfl rfl rfl (fun c24 => ?_) (fun c24 => ?_)
          · exfalso; omega
          · refine R_aload_n (k := 0) rfl rfl rfl ?_
            refine R_getf_r (j := 4) rfl ft_3_25 sh_87 rfl ?_
            refine R_aload_n (k := 0) rfl rfl rfl ?_
            refine R_getf_i (j := 8) rfl ft_3_38 sh_87 rfl ?_
            refine R_iload_n (k := 3) rfl rfl rfl ?_
            refine K_iast (a := (h6.1 87 8).toInt) (lo := 0) (hi' := 719) rfl sh_92 rfl ⟨by omega, by omega⟩ hI (by decide) rfl (by omega) fr (by decide) (fun h25 g26 hI fr => ?_)
            have fl7 : FR [87, 92] h1 h25 := by rw [g26]; exact FR_wI _ _ fl7 (by decide)
            have s27 : (h25.1 87 8).toInt = (h6.1 87 8).toInt := by rw [g26, wI_ne _ _ _ (by decide)]
            have s28 : (h25.1 87 6).toInt = (h6.1 87 6).toInt := by rw [g26, wI_ne _ _ _ (by decide)]
            refine R_aload_n (k := 0) rfl rfl rfl ?_
            refine R_dup_r rfl ?_
            refine R_getf_i (j := 8) rfl ft_3_38 sh_87 rfl ?_
            refine R_iconst 1 rfl rfl ?_
            refine N_iadd (a := (h25.1 87 8).toInt) (b := 1) rfl rfl (by decide) (by omega) (fun x29 q30 => ?_)
            refine K_putf (j := 8) (lo := 0) (hi' := 720) rfl ft_3_38 sh_87 rfl hI (by decide) rfl (by omega) fr (by decide) (fun h31 g32 hI fr => ?_)
            have fl7 : FR [87, 92] h1 h31 := by rw [g32]; exact FR_wI _ _ fl7 (by decide)
            have s33 : (h31.1 87 6).toInt = (h25.1 87 6).toInt := by rw [g32, wI_at (by decide)]
            have s34 : (h31.1 87 8).toInt = x29.toInt := by rw [g32, wI_is]
            refine N_iinc (a := x8.toInt) (c := 1) (fun w => [(3, .inl w), (0, .inr (.inr (.inl 87))), (1, .inr (.inr (.inl 66))), (2, .inl a1)]) rfl rfl (fun _ => rfl) (by decide) rfl (by decide) (by omega) (fun x35 q36 => ?_)
            refine R_goto 7 rfl rfl ?_
            exact RUN_weak (psub_cons rfl (psub_cons rfl (psub_cons rfl (psub_cons rfl (psub_nil _))))) (ih9 h31 x35 hI fr fl7 (by omega) (by omega) (by omega) (by omega))
        · show RUN d_X3_choose 26 [(3, .inl x8), (0, .inr (.inr (.inl 87))), (1, .inr (.inr (.inl 66))), (2, .inl a1)] [.inl x22] h6 _
          refine N_if_eq (a := x22.toInt) 49 rfl rfl rfl (fun c37 => ?_) (fun c37 => ?_)
          · refine N_iinc (a := x8.toInt) (c := 1) (fun w => [(3, .inl w), (0, .inr (.inr (.inl 87))), (1, .inr (.inr (.inl 66))), (2, .inl a1)]) rfl rfl (fun _ => rfl) (by decide) rfl (by decide) (by omega) (fun x38 q39 => ?_)
            refine R_goto 7 rfl rfl ?_
            exact RUN_weak (psub_cons rfl (psub_cons rfl (psub_cons rfl (psub_cons rfl (psub_nil _))))) (ih9 h6 x38 hI fr fl7 (by omega) (by omega) (by omega) (by omega))
          · exfalso; omega
  have k40 : (0 : Int32).toInt = 0 := by decide
  exact lp5 _ h1 (0 : Int32) hI fr (FR.rf _ _) (by decide) (by omega) (by omega) (Nat.lt_succ_self _)
abbrev q_X8_fits (h : PH) (a0 : Int32) : Option PV → PH → Prop := fun r h' => INV h' ∧ FR [0, 70, 71, 72, 73, 74, 75, 76, 77, 78, 79, 80, 81, 82, 83, 84, 85, 86, 87, 88, 89, 90, 91, 92] h h' ∧ (True) ∧ ∃ z : Int32, r = some (.inl z) ∧ (((-6) ≤ z.toInt ∧ z.toInt ≤ 720))
set_option maxHeartbeats 4000000 in
set_option maxRecDepth 100000 in
theorem k_X8_fits (h : PH) (hI : INV h) (a0 : Int32) : CALL d_X8_fits [.inr (.inr (.inl 0)), .inl a0] h (q_X8_fits h a0) := by
  show RUN d_X8_fits 0 [(0, .inr (.inr (.inl 0))), (1, .inl a0)] [] h _
  have b1 := i_rng a0
  have fr : FR [0, 70, 71, 72, 73, 74, 75, 76, 77, 78, 79, 80, 81, 82, 83, 84, 85, 86, 87, 88, 89, 90, 91, 92] h h := FR.rf _ _
  refine R_aload_n (k := 0) rfl rfl rfl ?_
  refine R_iload_n (k := 1) rfl rfl rfl ?_
  have b2 : (0 : Int) ≤ (h.1 17 0).toInt ∧ (h.1 17 0).toInt ≤ 60 := hI.1 17 0
  have e3 : 0 < (h.1 17 10).toInt → 1 ≤ (h.1 17 0).toInt := hI.2.1
  refine R_callV (v := .inr (.inr (.inl 0))) (As := [.inl a0]) (rest := []) rfl mt_8_i310 pp_X8_seenRefusal (by decide) rfl rfl rfl (Nat.le_of_ble_eq_true rfl) (Nat.le_of_ble_eq_true rfl) ((k_X8_seenRefusal h hI a0).mono (fun r4 h5 p6 => ?_))
  obtain ⟨rfl, x7, rfl, q8 | q8 | q8 | q8 | q8 | q8⟩ := p6
  · show RUN d_X8_fits 5 [(0, .inr (.inr (.inl 0))), (1, .inl a0)] [.inl x7] h _
    refine R_istore_n (k := 2) rfl [(2, .inl x7), (0, .inr (.inr (.inl 0))), (1, .inl a0)] rfl rfl (by decide) ?_
    refine R_iload_n (k := 2) rfl rfl rfl ?_
    refine N_if_eq (a := x7.toInt) 12 rfl rfl rfl (fun c9 => ?_) (fun c9 => ?_)
    · exfalso; omega
    · refine R_iload_n (k := 2) rfl rfl rfl ?_
      exact R_iret rfl rfl rfl ⟨hI, fr, trivial, _, rfl, by omega⟩
  · show RUN d_X8_fits 5 [(0, .inr (.inr (.inl 0))), (1, .inl a0)] [.inl x7] h _
    refine R_istore_n (k := 2) rfl [(2, .inl x7), (0, .inr (.inr (.inl 0))), (1, .inl a0)] rfl rfl (by decide) ?_
    refine R_iload_n (k := 2) rfl rfl rfl ?_
    refine N_if_eq (a := x7.toInt) 12 rfl rfl rfl (fun c10 => ?_) (fun c10 => ?_)
    · exfalso; omega
    · refine R_iload_n (k := 2) rfl rfl rfl ?_
      exact R_iret rfl rfl rfl ⟨hI, fr, trivial, _, rfl, by omega⟩
  · show RUN d_X8_fits 5 [(0, .inr (.inr (.inl 0))), (1, .inl a0)] [.inl x7] h _
    refine R_istore_n (k := 2) rfl [(2, .inl x7), (0, .inr (.inr (.inl 0))), (1, .inl a0)] rfl rfl (by decide) ?_
    refine R_iload_n (k := 2) rfl rfl rfl ?_
    refine N_if_eq (a := x7.toInt) 12 rfl rfl rfl (fun c11 => ?_) (fun c11 => ?_)
    · exfalso; omega
    · refine R_iload_n (k := 2) rfl rfl rfl ?_
      exact R_iret rfl rfl rfl ⟨hI, fr, trivial, _, rfl, by omega⟩
  · show RUN d_X8_fits 5 [(0, .inr (.inr (.inl 0))), (1, .inl a0)] [.inl x7] h _
    refine R_istore_n (k := 2) rfl [(2, .inl x7), (0, .inr (.inr (.inl 0))), (1, .inl a0)] rfl rfl (by decide) ?_
    refine R_iload_n (k := 2) rfl rfl rfl ?_
    refine N_if_eq (a := x7.toInt) 12 rfl rfl rfl (fun c12 => ?_) (fun c12 => ?_)
    · exfalso; omega
    · refine R_iload_n (k := 2) rfl rfl rfl ?_
      exact R_iret rfl rfl rfl ⟨hI, fr, trivial, _, rfl, by omega⟩
  · show RUN d_X8_fits 5 [(0, .inr (.inr (.inl 0))), (1, .inl a0)] [.inl x7] h _
    refine R_istore_n (k := 2) rfl [(2, .inl x7), (0, .inr (.inr (.inl 0))), (1, .inl a0)] rfl rfl (by decide) ?_
    refine R_iload_n (k := 2) rfl rfl rfl ?_
    refine N_if_eq (a := x7.toInt) 12 rfl rfl rfl (fun c13 => ?_) (fun c13 => ?_)
    · refine R_aload_n (k := 0) rfl rfl rfl ?_
      refine R_callV (v := .inr (.inr (.inl 0))) (As := []) (rest := []) rfl mt_8_i292 pp_X8_played (by decide) rfl rfl rfl (Nat.le_of_ble_eq_true rfl) (Nat.le_of_ble_eq_true rfl) ((k_X8_played h hI).mono (fun r14 h15 p16 => ?_))
      obtain ⟨hJ, fj, -, rfl⟩ := p16
      have f17 := fj
      have fr := fr.trans fj (by decide)
      have hI := hJ
      have s18 : (h15.1 17 10).toInt = (h.1 17 10).toInt := by rw [(f17 17 (by decide)).1]
      have s19 : (h15.1 17 0).toInt = (h.1 17 0).toInt := by rw [(f17 17 (by decide)).1]
      show RUN d_X8_fits 16 [(2, .inl x7), (0, .inr (.inr (.inl 0))), (1, .inl a0)] [.inr (.inr (.inl 87))] h15 _
      refine R_aload_n (k := 0) rfl rfl rfl ?_
      refine R_getf_r (j := 6) rfl ft_8_42 sh_0 rfl ?_
      refine R_iload_n (k := 1) rfl rfl rfl ?_
      refine R_callV (v := .inr (.inr (.inl 87))) (As := [.inr (.inr (.inl 66)), .inl a0]) (rest := []) rfl mt_8_i313 pp_X3_choose (by decide) rfl rfl rfl (Nat.le_of_ble_eq_true rfl) (Nat.le_of_ble_eq_true rfl) ((k_X3_choose h15 hI a0 (by omega)).mono (fun r20 h21 p22 => ?_))
      obtain ⟨hJ, fj, -, rfl⟩ := p22
      have f23 := fj
      have fr := fr.trans fj (by decide)
      have hI := hJ
      have s24 : (h21.1 17 10).toInt = (h15.1 17 10).toInt := by rw [(f23 17 (by decide)).1]
      have s25 : (h21.1 17 0).toInt = (h15.1 17 0).toInt := by rw [(f23 17 (by decide)).1]
      show RUN d_X8_fits 24 [(2, .inl x7), (0, .inr (.inr (.inl 0))), (1, .inl a0)] [] h21 _
      refine R_aload_n (k := 0) rfl rfl rfl ?_
      refine R_getf_r (j := 9) rfl ft_8_63 sh_0 rfl ?_
      refine R_getf_i (j := 8) rfl ft_8_317 sh_87 rfl ?_
      have b26 : (0 : Int) ≤ (h21.1 87 8).toInt ∧ (h21.1 87 8).toInt ≤ 720 := hI.1 87 8
      exact R_iret rfl rfl rfl ⟨hI, fr, trivial, _, rfl, by omega⟩
    · exfalso; omega
  · show RUN d_X8_fits 5 [(0, .inr (.inr (.inl 0))), (1, .inl a0)] [.inl x7] h _
    refine R_istore_n (k := 2) rfl [(2, .inl x7), (0, .inr (.inr (.inl 0))), (1, .inl a0)] rfl rfl (by decide) ?_
    refine R_iload_n (k := 2) rfl rfl rfl ?_
    refine N_if_eq (a := x7.toInt) 12 rfl rfl rfl (fun c27 => ?_) (fun c27 => ?_)
    · exfalso; omega
    · refine R_iload_n (k := 2) rfl rfl rfl ?_
      exact R_iret rfl rfl rfl ⟨hI, fr, trivial, _, rfl, by omega⟩
abbrev q_X9_fits (h : PH) (a0 : Int32) : Option PV → PH → Prop := fun r h' => INV h' ∧ FR [96, 103, 104, 105, 106, 107, 108, 109, 110, 111, 112, 113, 114, 115, 116, 117, 118, 119, 124, 125] h h' ∧ (True) ∧ ∃ z : Int32, r = some (.inl z) ∧ (((-6) ≤ z.toInt ∧ z.toInt ≤ 720))
set_option maxHeartbeats 4000000 in
set_option maxRecDepth 100000 in
theorem k_X9_fits (h : PH) (hI : INV h) (a0 : Int32) : CALL d_X9_fits [.inr (.inr (.inl 96)), .inl a0] h (q_X9_fits h a0) := by
  show RUN d_X9_fits 0 [(0, .inr (.inr (.inl 96))), (1, .inl a0)] [] h _
  have b1 := i_rng a0
  have fr : FR [96, 103, 104, 105, 106, 107, 108, 109, 110, 111, 112, 113, 114, 115, 116, 117, 118, 119, 124, 125] h h := FR.rf _ _
  refine R_aload_n (k := 0) rfl rfl rfl ?_
  refine R_iload_n (k := 1) rfl rfl rfl ?_
  refine R_callV (v := .inr (.inr (.inl 96))) (As := [.inl a0]) (rest := []) rfl mt_9_i451 pp_X9_layFits (by decide) rfl rfl rfl (Nat.le_of_ble_eq_true rfl) (Nat.le_of_ble_eq_true rfl) ((k_X9_layFits h hI a0).mono (fun r2 h3 p4 => ?_))
  obtain ⟨hJ, fj, -, x5, rfl, q6⟩ := p4
  have f7 := fj
  have fr := fr.trans fj (by decide)
  have hI := hJ
  show RUN d_X9_fits 5 [(0, .inr (.inr (.inl 96))), (1, .inl a0)] [.inl x5] h3 _
  refine R_istore_n (k := 2) rfl [(2, .inl x5), (0, .inr (.inr (.inl 96))), (1, .inl a0)] rfl rfl (by decide) ?_
  refine R_iload_n (k := 2) rfl rfl rfl ?_
  refine N_if_ge (a := x5.toInt) 14 rfl rfl rfl (fun c8 => ?_) (fun c8 => ?_)
  · refine R_aload_n (k := 0) rfl rfl rfl ?_
    refine R_getf_i (j := 51) rfl ft_9_445 sh_96 rfl ?_
    have b9 : (0 : Int) ≤ (h3.1 96 51).toInt ∧ (h3.1 96 51).toInt ≤ 720 := hI.1 96 51
    exact R_iret rfl rfl rfl ⟨hI, fr, trivial, _, rfl, by omega⟩
  · refine R_iload_n (k := 2) rfl rfl rfl ?_
    refine R_goto 18 rfl rfl ?_
    exact R_iret rfl rfl rfl ⟨hI, fr, trivial, _, rfl, by omega⟩
abbrev q_X8_may (h : PH) (a0 : Int32) (a1 : Int32) : Option PV → PH → Prop := fun r h' => INV h' ∧ FR [0, 70, 71, 72, 73, 74, 75, 76, 77, 78, 79, 80, 81, 82, 83, 84, 85, 86, 87, 88, 89, 90, 91, 92] h h' ∧ (True) ∧ ∃ z : Int32, r = some (.inl z) ∧ ((True))
set_option maxHeartbeats 4000000 in
set_option maxRecDepth 100000 in
theorem k_X8_may (h : PH) (hI : INV h) (a0 : Int32) (a1 : Int32) : CALL d_X8_may [.inr (.inr (.inl 0)), .inl a0, .inl a1] h (q_X8_may h a0 a1) := by
  show RUN d_X8_may 0 [(0, .inr (.inr (.inl 0))), (1, .inl a0), (2, .inl a1)] [] h _
  have b1 := i_rng a0
  have b2 := i_rng a1
  have fr : FR [0, 70, 71, 72, 73, 74, 75, 76, 77, 78, 79, 80, 81, 82, 83, 84, 85, 86, 87, 88, 89, 90, 91, 92] h h := FR.rf _ _
  refine R_aload_n (k := 0) rfl rfl rfl ?_
  refine R_getf_r (j := 3) rfl ft_8_28 sh_0 rfl ?_
  refine R_iload_n (k := 2) rfl rfl rfl ?_
  have b3 : (0 : Int) ≤ (h.1 17 5).toInt ∧ (h.1 17 5).toInt ≤ 6 := hI.1 17 5
  refine R_callV (v := .inr (.inr (.inl 16))) (As := [.inl a1]) (rest := []) rfl mt_8_i119 pp_X1_hasHand (by decide) rfl rfl rfl (Nat.le_of_ble_eq_true rfl) (Nat.le_of_ble_eq_true rfl) ((k_X1_hasHand h hI a1).mono (fun r4 h5 p6 => ?_))
  obtain ⟨rfl, x7, rfl, q8 | q8 | q8⟩ := p6
  · show RUN d_X8_may 8 [(0, .inr (.inr (.inl 0))), (1, .inl a0), (2, .inl a1)] [.inl x7] h _
    refine N_if_ne (a := x7.toInt) 14 rfl rfl rfl (fun c9 => ?_) (fun c9 => ?_)
    · exfalso; omega
    · refine R_bipush (-2) rfl rfl ?_
      exact R_iret rfl rfl rfl ⟨hI, fr, trivial, _, rfl, trivial⟩
  · show RUN d_X8_may 8 [(0, .inr (.inr (.inl 0))), (1, .inl a0), (2, .inl a1)] [.inl x7] h _
    refine N_if_ne (a := x7.toInt) 14 rfl rfl rfl (fun c10 => ?_) (fun c10 => ?_)
    · exfalso; omega
    · refine R_bipush (-2) rfl rfl ?_
      exact R_iret rfl rfl rfl ⟨hI, fr, trivial, _, rfl, trivial⟩
  · show RUN d_X8_may 8 [(0, .inr (.inr (.inl 0))), (1, .inl a0), (2, .inl a1)] [.inl x7] h _
    refine N_if_ne (a := x7.toInt) 14 rfl rfl rfl (fun c11 => ?_) (fun c11 => ?_)
    · refine R_aload_n (k := 0) rfl rfl rfl ?_
      refine R_iload_n (k := 1) rfl rfl rfl ?_
      have b12 : (0 : Int) ≤ (h.1 17 0).toInt ∧ (h.1 17 0).toInt ≤ 60 := hI.1 17 0
      have e13 : 0 < (h.1 17 10).toInt → 1 ≤ (h.1 17 0).toInt := hI.2.1
      refine R_callV (v := .inr (.inr (.inl 0))) (As := [.inl a0]) (rest := []) rfl mt_8_i310 pp_X8_seenRefusal (by decide) rfl rfl rfl (Nat.le_of_ble_eq_true rfl) (Nat.le_of_ble_eq_true rfl) ((k_X8_seenRefusal h hI a0).mono (fun r14 h15 p16 => ?_))
      obtain ⟨rfl, x17, rfl, q18 | q18 | q18 | q18 | q18 | q18⟩ := p16
      · show RUN d_X8_may 19 [(0, .inr (.inr (.inl 0))), (1, .inl a0), (2, .inl a1)] [.inl x17] h _
        refine R_istore_n (k := 3) rfl [(3, .inl x17), (0, .inr (.inr (.inl 0))), (1, .inl a0), (2, .inl a1)] rfl rfl (by decide) ?_
        refine R_iload_n (k := 3) rfl rfl rfl ?_
        refine N_if_eq (a := x17.toInt) 26 rfl rfl rfl (fun c19 => ?_) (fun c19 => ?_)
        · exfalso; omega
        · refine R_iload_n (k := 3) rfl rfl rfl ?_
          exact R_iret rfl rfl rfl ⟨hI, fr, trivial, _, rfl, trivial⟩
      · show RUN d_X8_may 19 [(0, .inr (.inr (.inl 0))), (1, .inl a0), (2, .inl a1)] [.inl x17] h _
        refine R_istore_n (k := 3) rfl [(3, .inl x17), (0, .inr (.inr (.inl 0))), (1, .inl a0), (2, .inl a1)] rfl rfl (by decide) ?_
        refine R_iload_n (k := 3) rfl rfl rfl ?_
        refine N_if_eq (a := x17.toInt) 26 rfl rfl rfl (fun c20 => ?_) (fun c20 => ?_)
        · exfalso; omega
        · refine R_iload_n (k := 3) rfl rfl rfl ?_
          exact R_iret rfl rfl rfl ⟨hI, fr, trivial, _, rfl, trivial⟩
      · show RUN d_X8_may 19 [(0, .inr (.inr (.inl 0))), (1, .inl a0), (2, .inl a1)] [.inl x17] h _
        refine R_istore_n (k := 3) rfl [(3, .inl x17), (0, .inr (.inr (.inl 0))), (1, .inl a0), (2, .inl a1)] rfl rfl (by decide) ?_
        refine R_iload_n (k := 3) rfl rfl rfl ?_
        refine N_if_eq (a := x17.toInt) 26 rfl rfl rfl (fun c21 => ?_) (fun c21 => ?_)
        · exfalso; omega
        · refine R_iload_n (k := 3) rfl rfl rfl ?_
          exact R_iret rfl rfl rfl ⟨hI, fr, trivial, _, rfl, trivial⟩
      · show RUN d_X8_may 19 [(0, .inr (.inr (.inl 0))), (1, .inl a0), (2, .inl a1)] [.inl x17] h _
        refine R_istore_n (k := 3) rfl [(3, .inl x17), (0, .inr (.inr (.inl 0))), (1, .inl a0), (2, .inl a1)] rfl rfl (by decide) ?_
        refine R_iload_n (k := 3) rfl rfl rfl ?_
        refine N_if_eq (a := x17.toInt) 26 rfl rfl rfl (fun c22 => ?_) (fun c22 => ?_)
        · exfalso; omega
        · refine R_iload_n (k := 3) rfl rfl rfl ?_
          exact R_iret rfl rfl rfl ⟨hI, fr, trivial, _, rfl, trivial⟩
      · show RUN d_X8_may 19 [(0, .inr (.inr (.inl 0))), (1, .inl a0), (2, .inl a1)] [.inl x17] h _
        refine R_istore_n (k := 3) rfl [(3, .inl x17), (0, .inr (.inr (.inl 0))), (1, .inl a0), (2, .inl a1)] rfl rfl (by decide) ?_
        refine R_iload_n (k := 3) rfl rfl rfl ?_
        refine N_if_eq (a := x17.toInt) 26 rfl rfl rfl (fun c23 => ?_) (fun c23 => ?_)
        · refine R_aload_n (k := 0) rfl rfl rfl ?_
          refine R_callV (v := .inr (.inr (.inl 0))) (As := []) (rest := []) rfl mt_8_i292 pp_X8_played (by decide) rfl rfl rfl (Nat.le_of_ble_eq_true rfl) (Nat.le_of_ble_eq_true rfl) ((k_X8_played h hI).mono (fun r24 h25 p26 => ?_))
          obtain ⟨hJ, fj, -, rfl⟩ := p26
          have f27 := fj
          have fr := fr.trans fj (by decide)
          have hI := hJ
          have s28 : (h25.1 17 5).toInt = (h.1 17 5).toInt := by rw [(f27 17 (by decide)).1]
          have s29 : (h25.1 17 10).toInt = (h.1 17 10).toInt := by rw [(f27 17 (by decide)).1]
          have s30 : (h25.1 17 0).toInt = (h.1 17 0).toInt := by rw [(f27 17 (by decide)).1]
          show RUN d_X8_may 30 [(3, .inl x17), (0, .inr (.inr (.inl 0))), (1, .inl a0), (2, .inl a1)] [.inr (.inr (.inl 87))] h25 _
          refine R_aload_n (k := 0) rfl rfl rfl ?_
          refine R_getf_r (j := 6) rfl ft_8_42 sh_0 rfl ?_
          refine R_iload_n (k := 1) rfl rfl rfl ?_
          refine R_callV (v := .inr (.inr (.inl 87))) (As := [.inr (.inr (.inl 66)), .inl a0]) (rest := []) rfl mt_8_i313 pp_X3_choose (by decide) rfl rfl rfl (Nat.le_of_ble_eq_true rfl) (Nat.le_of_ble_eq_true rfl) ((k_X3_choose h25 hI a0 (by omega)).mono (fun r31 h32 p33 => ?_))
          obtain ⟨hJ, fj, -, rfl⟩ := p33
          have f34 := fj
          have fr := fr.trans fj (by decide)
          have hI := hJ
          have s35 : (h32.1 17 5).toInt = (h25.1 17 5).toInt := by rw [(f34 17 (by decide)).1]
          have s36 : (h32.1 17 10).toInt = (h25.1 17 10).toInt := by rw [(f34 17 (by decide)).1]
          have s37 : (h32.1 17 0).toInt = (h25.1 17 0).toInt := by rw [(f34 17 (by decide)).1]
          show RUN d_X8_may 38 [(3, .inl x17), (0, .inr (.inr (.inl 0))), (1, .inl a0), (2, .inl a1)] [] h32 _
          refine R_aload_n (k := 0) rfl rfl rfl ?_
          refine R_getf_r (j := 9) rfl ft_8_63 sh_0 rfl ?_
          refine R_iload_n (k := 2) rfl rfl rfl ?_
          refine R_aload_n (k := 0) rfl rfl rfl ?_
          refine R_getf_r (j := 3) rfl ft_8_28 sh_0 rfl ?_
          refine R_getf_r (j := 0) rfl ft_8_109 sh_16 rfl ?_
          refine R_iconst 5 rfl rfl ?_
          refine R_iald rfl sh_17 (by decide) ?_
          show RUN d_X8_may 52 [(3, .inl x17), (0, .inr (.inr (.inl 0))), (1, .inl a0), (2, .inl a1)] [.inl (h32.1 17 5), .inl a1, .inr (.inr (.inl 87))] h32 _
          refine R_callV (v := .inr (.inr (.inl 87))) (As := [.inl a1, .inl (h32.1 17 5)]) (rest := []) rfl mt_8_i320 pp_X3_placesOf (by decide) rfl rfl rfl (Nat.le_of_ble_eq_true rfl) (Nat.le_of_ble_eq_true rfl) ((k_X3_placesOf h32 hI a1 (h32.1 17 5) (by omega) (by omega)).mono (fun r38 h39 p40 => ?_))
          obtain ⟨rfl, x41, rfl, q42⟩ := p40
          show RUN d_X8_may 55 [(3, .inl x17), (0, .inr (.inr (.inl 0))), (1, .inl a0), (2, .inl a1)] [.inl x41] h32 _
          exact R_iret rfl rfl rfl ⟨hI, fr, trivial, _, rfl, trivial⟩
        · exfalso; omega
      · show RUN d_X8_may 19 [(0, .inr (.inr (.inl 0))), (1, .inl a0), (2, .inl a1)] [.inl x17] h _
        refine R_istore_n (k := 3) rfl [(3, .inl x17), (0, .inr (.inr (.inl 0))), (1, .inl a0), (2, .inl a1)] rfl rfl (by decide) ?_
        refine R_iload_n (k := 3) rfl rfl rfl ?_
        refine N_if_eq (a := x17.toInt) 26 rfl rfl rfl (fun c43 => ?_) (fun c43 => ?_)
        · exfalso; omega
        · refine R_iload_n (k := 3) rfl rfl rfl ?_
          exact R_iret rfl rfl rfl ⟨hI, fr, trivial, _, rfl, trivial⟩
    · exfalso; omega
abbrev q_X9_may (h : PH) (a0 : Int32) (a1 : Int32) : Option PV → PH → Prop := fun r h' => INV h' ∧ FR [96, 103, 104, 105, 106, 107, 108, 109, 110, 111, 112, 113, 114, 115, 116, 117, 118, 119, 124, 125] h h' ∧ (True) ∧ ∃ z : Int32, r = some (.inl z) ∧ ((True))
set_option maxHeartbeats 4000000 in
set_option maxRecDepth 100000 in
theorem k_X9_may (h : PH) (hI : INV h) (a0 : Int32) (a1 : Int32) : CALL d_X9_may [.inr (.inr (.inl 96)), .inl a0, .inl a1] h (q_X9_may h a0 a1) := by
  show RUN d_X9_may 0 [(0, .inr (.inr (.inl 96))), (1, .inl a0), (2, .inl a1)] [] h _
  have b1 := i_rng a0
  have b2 := i_rng a1
  have fr : FR [96, 103, 104, 105, 106, 107, 108, 109, 110, 111, 112, 113, 114, 115, 116, 117, 118, 119, 124, 125] h h := FR.rf _ _
  refine R_aload_n (k := 0) rfl rfl rfl ?_
  refine R_iload_n (k := 2) rfl rfl rfl ?_
  have b3 : (0 : Int) ≤ (h.1 97 5).toInt ∧ (h.1 97 5).toInt ≤ 6 := hI.1 97 5
  have b4 : (0 : Int) ≤ (h.1 97 0).toInt ∧ (h.1 97 0).toInt ≤ 60 := hI.1 97 0
  have e5 : 0 < (h.1 97 5).toInt → 1 ≤ (h.1 97 0).toInt := hI.2.2.2.2.2.1.2.2
  refine R_callV (v := .inr (.inr (.inl 96))) (As := [.inl a1]) (rest := []) rfl mt_9_i314 pp_X9_isHand (by decide) rfl rfl rfl (Nat.le_of_ble_eq_true rfl) (Nat.le_of_ble_eq_true rfl) ((k_X9_isHand h hI a1).mono (fun r6 h7 p8 => ?_))
  obtain ⟨rfl, x9, rfl, q10 | q10 | q10⟩ := p8
  · show RUN d_X9_may 5 [(0, .inr (.inr (.inl 96))), (1, .inl a0), (2, .inl a1)] [.inl x9] h _
    refine N_if_ne (a := x9.toInt) 11 rfl rfl rfl (fun c11 => ?_) (fun c11 => ?_)
    · exfalso; omega
    · refine R_bipush (-2) rfl rfl ?_
      exact R_iret rfl rfl rfl ⟨hI, fr, trivial, _, rfl, trivial⟩
  · show RUN d_X9_may 5 [(0, .inr (.inr (.inl 96))), (1, .inl a0), (2, .inl a1)] [.inl x9] h _
    refine N_if_ne (a := x9.toInt) 11 rfl rfl rfl (fun c12 => ?_) (fun c12 => ?_)
    · exfalso; omega
    · refine R_bipush (-2) rfl rfl ?_
      exact R_iret rfl rfl rfl ⟨hI, fr, trivial, _, rfl, trivial⟩
  · show RUN d_X9_may 5 [(0, .inr (.inr (.inl 96))), (1, .inl a0), (2, .inl a1)] [.inl x9] h _
    refine N_if_ne (a := x9.toInt) 11 rfl rfl rfl (fun c13 => ?_) (fun c13 => ?_)
    · refine R_aload_n (k := 0) rfl rfl rfl ?_
      refine R_iload_n (k := 1) rfl rfl rfl ?_
      refine R_callV (v := .inr (.inr (.inl 96))) (As := [.inl a0]) (rest := []) rfl mt_9_i451 pp_X9_layFits (by decide) rfl rfl rfl (Nat.le_of_ble_eq_true rfl) (Nat.le_of_ble_eq_true rfl) ((k_X9_layFits h hI a0).mono (fun r14 h15 p16 => ?_))
      obtain ⟨hJ, fj, -, x17, rfl, q18⟩ := p16
      have f19 := fj
      have fr := fr.trans fj (by decide)
      have hI := hJ
      have s20 : (h15.1 97 5).toInt = (h.1 97 5).toInt := by rw [(f19 97 (by decide)).1]
      have s21 : (h15.1 97 0).toInt = (h.1 97 0).toInt := by rw [(f19 97 (by decide)).1]
      show RUN d_X9_may 16 [(0, .inr (.inr (.inl 96))), (1, .inl a0), (2, .inl a1)] [.inl x17] h15 _
      refine R_istore_n (k := 3) rfl [(3, .inl x17), (0, .inr (.inr (.inl 96))), (1, .inl a0), (2, .inl a1)] rfl rfl (by decide) ?_
      refine R_iload_n (k := 3) rfl rfl rfl ?_
      refine N_if_ge (a := x17.toInt) 23 rfl rfl rfl (fun c22 => ?_) (fun c22 => ?_)
      · refine R_iconst 0 rfl rfl ?_
        refine R_istore (k := 4) [(4, .inl 0), (3, .inl x17), (0, .inr (.inr (.inl 96))), (1, .inl a0), (2, .inl a1)] rfl rfl (by decide) ?_
        refine R_iconst 0 rfl rfl ?_
        refine R_istore (k := 5) [(5, .inl 0), (4, .inl 0), (3, .inl x17), (0, .inr (.inr (.inl 96))), (1, .inl a0), (2, .inl a1)] rfl rfl (by decide) ?_
        have lp24 : ∀ (n23 : Nat) (x25 : Int32) (x26 : Int32), 0 ≤ x26.toInt ∧ x26.toInt ≤ 720 → (720 - x26.toInt).toNat < n23 → RUN d_X9_may 29 [(5, .inl x26), (4, .inl x25), (3, .inl x17), (0, .inr (.inr (.inl 96))), (1, .inl a0), (2, .inl a1)] [] h15 (q_X9_may h a0 a1) := by
          intro n23
          induction n23 with
          | zero => intro x25 x26 m28 hz; exact absurd hz (Nat.not_lt_zero _)
          | succ n23 ih27 =>
            intro x25 x26 m28 hz
            refine R_iload (k := 5) rfl rfl ?_
            refine R_aload_n (k := 0) rfl rfl rfl ?_
            refine R_getf_i (j := 51) rfl ft_9_445 sh_96 rfl ?_
            have b29 : (0 : Int) ≤ (h15.1 96 51).toInt ∧ (h15.1 96 51).toInt ≤ 720 := hI.1 96 51
            refine N_icmp_ge (a := x26.toInt) (b := (h15.1 96 51).toInt) 92 rfl rfl rfl rfl (fun c30 => ?_) (fun c30 => ?_)
            · refine R_iload (k := 4) rfl rfl ?_
              exact R_iret rfl rfl rfl ⟨hI, fr, trivial, _, rfl, trivial⟩
            · refine R_iconst 0 rfl rfl ?_
              refine R_istore (k := 6) [(6, .inl 0), (5, .inl x26), (4, .inl x25), (3, .inl x17), (0, .inr (.inr (.inl 96))), (1, .inl a0), (2, .inl a1)] rfl rfl (by decide) ?_
              have lp32 : ∀ (n31 : Nat) (x33 : Int32) (x34 : Int32), 0 ≤ x34.toInt ∧ x34.toInt ≤ 6 → (6 - x34.toInt).toNat < n31 → RUN d_X9_may 41 [(6, .inl x34), (5, .inl x26), (4, .inl x33), (3, .inl x17), (0, .inr (.inr (.inl 96))), (1, .inl a0), (2, .inl a1)] [] h15 (q_X9_may h a0 a1) := by
                intro n31
                induction n31 with
                | zero => intro x33 x34 m36 hz; exact absurd hz (Nat.not_lt_zero _)
                | succ n31 ih35 =>
                  intro x33 x34 m36 hz
                  refine R_iload (k := 6) rfl rfl ?_
                  refine R_aload_n (k := 0) rfl rfl rfl ?_
                  refine R_callV (v := .inr (.inr (.inl 96))) (As := []) (rest := [.inl x34]) rfl mt_9_i133 pp_X9_hands (by decide) rfl rfl rfl (Nat.le_of_ble_eq_true rfl) (Nat.le_of_ble_eq_true rfl) ((k_X9_hands h15 hI).mono (fun r37 h38 p39 => ?_))
                  obtain ⟨rfl, x40, rfl, q41⟩ := p39
                  show RUN d_X9_may 47 [(6, .inl x34), (5, .inl x26), (4, .inl x33), (3, .inl x17), (0, .inr (.inr (.inl 96))), (1, .inl a0), (2, .inl a1)] [.inl x40, .inl x34] h15 _
                  refine N_icmp_ge (a := x34.toInt) (b := x40.toInt) 86 rfl rfl rfl rfl (fun c42 => ?_) (fun c42 => ?_)
                  · refine N_iinc (a := x26.toInt) (c := 1) (fun w => [(5, .inl w), (6, .inl x34), (4, .inl x33), (3, .inl x17), (0, .inr (.inr (.inl 96))), (1, .inl a0), (2, .inl a1)]) rfl rfl (fun _ => rfl) (by decide) rfl (by decide) (by omega) (fun x43 q44 => ?_)
                    refine R_goto 29 rfl rfl ?_
                    exact RUN_weak (psub_cons rfl (psub_cons rfl (psub_cons rfl (psub_cons rfl (psub_cons rfl (psub_cons rfl (psub_nil _))))))) (ih27 x33 x43 (by omega) (by omega))
                  · refine R_iload (k := 4) rfl rfl ?_
                    refine R_aload_n (k := 0) rfl rfl rfl ?_
                    refine R_getf_r (j := 49) rfl ft_9_97 sh_96 rfl ?_
                    refine R_bipush 6 rfl rfl ?_
                    refine R_iload (k := 5) rfl rfl ?_
                    refine N_imul (a := 6) (b := x26.toInt) rfl (by decide) rfl (by omega) (fun x45 q46 => ?_)
                    refine R_iload (k := 6) rfl rfl ?_
                    refine N_iadd (a := x45.toInt) (b := x34.toInt) rfl rfl rfl (by omega) (fun x47 q48 => ?_)
                    refine R_bald rfl sh_124 ⟨by omega, by omega⟩ ?_
                    refine N_any (fun x49 => ?_)
                    refine R_iload_n (k := 2) rfl rfl rfl ?_
                    refine N_icmp_ne (a := x49.toInt) (b := a1.toInt) 76 rfl rfl rfl rfl (fun c50 => ?_) (fun c50 => ?_)
                    · refine R_iconst 0 rfl rfl ?_
                      refine R_ior rfl ?_
                      refine N_any (fun x51 => ?_)
                      refine R_istore (k := 4) [(4, .inl x51), (6, .inl x34), (5, .inl x26), (3, .inl x17), (0, .inr (.inr (.inl 96))), (1, .inl a0), (2, .inl a1)] rfl rfl (by decide) ?_
                      refine N_iinc (a := x34.toInt) (c := 1) (fun w => [(6, .inl w), (4, .inl x51), (5, .inl x26), (3, .inl x17), (0, .inr (.inr (.inl 96))), (1, .inl a0), (2, .inl a1)]) rfl rfl (fun _ => rfl) (by decide) rfl (by decide) (by omega) (fun x52 q53 => ?_)
                      refine R_goto 41 rfl rfl ?_
                      exact RUN_weak (psub_cons rfl (psub_cons rfl (psub_cons rfl (psub_cons rfl (psub_cons rfl (psub_cons rfl (psub_cons rfl (psub_nil _)))))))) (ih35 x51 x52 (by omega) (by omega))
                    · refine R_iconst 1 rfl rfl ?_
                      refine R_iload (k := 6) rfl rfl ?_
                      refine N_ishl1 (b := x34.toInt) rfl rfl (by omega) (fun x54 q55 => ?_)
                      refine R_goto 77 rfl rfl ?_
                      refine R_ior rfl ?_
                      refine N_any (fun x56 => ?_)
                      refine R_istore (k := 4) [(4, .inl x56), (6, .inl x34), (5, .inl x26), (3, .inl x17), (0, .inr (.inr (.inl 96))), (1, .inl a0), (2, .inl a1)] rfl rfl (by decide) ?_
                      refine N_iinc (a := x34.toInt) (c := 1) (fun w => [(6, .inl w), (4, .inl x56), (5, .inl x26), (3, .inl x17), (0, .inr (.inr (.inl 96))), (1, .inl a0), (2, .inl a1)]) rfl rfl (fun _ => rfl) (by decide) rfl (by decide) (by omega) (fun x57 q58 => ?_)
                      refine R_goto 41 rfl rfl ?_
                      exact RUN_weak (psub_cons rfl (psub_cons rfl (psub_cons rfl (psub_cons rfl (psub_cons rfl (psub_cons rfl (psub_cons rfl (psub_nil _)))))))) (ih35 x56 x57 (by omega) (by omega))
              exact lp32 _ x25 (0 : Int32) (by decide) (Nat.lt_succ_self _)
        exact lp24 _ (0 : Int32) (0 : Int32) (by decide) (Nat.lt_succ_self _)
      · refine R_iload_n (k := 3) rfl rfl rfl ?_
        exact R_iret rfl rfl rfl ⟨hI, fr, trivial, _, rfl, trivial⟩
    · exfalso; omega
abbrev q_X3_worstBy (h : PH) (a0 : Int32) : Option PV → PH → Prop := fun r h' => INV h' ∧ FR [93] h h' ∧ (True) ∧ ∃ z : Int32, r = some (.inl z) ∧ ((0 ≤ z.toInt ∧ z.toInt ≤ 2147483647))
set_option maxHeartbeats 4000000 in
set_option maxRecDepth 100000 in
theorem k_X3_worstBy (h : PH) (hI : INV h) (a0 : Int32) (h0a : 0 ≤ a0.toInt ∧ a0.toInt ≤ 59) : CALL d_X3_worstBy [.inr (.inr (.inl 87)), .inl a0] h (q_X3_worstBy h a0) := by
  show RUN d_X3_worstBy 0 [(0, .inr (.inr (.inl 87))), (1, .inl a0)] [] h _
  have fr : FR [93] h h := FR.rf _ _
  refine R_iconst 0 rfl rfl ?_
  refine R_istore_n (k := 2) rfl [(2, .inl 0), (0, .inr (.inr (.inl 87))), (1, .inl a0)] rfl rfl (by decide) ?_
  have lp2 : ∀ (n1 : Nat) (h3 : PH) (x5 : Int32), INV h3 → FR [93] h h3 → FR [93] h h3 → 0 ≤ x5.toInt ∧ x5.toInt ≤ 61 → (61 - x5.toInt).toNat < n1 → RUN d_X3_worstBy 2 [(2, .inl x5), (0, .inr (.inr (.inl 87))), (1, .inl a0)] [] h3 (q_X3_worstBy h a0) := by
    intro n1
    induction n1 with
    | zero => intro h3 x5 m7 m8 m9 m10 hz; exact absurd hz (Nat.not_lt_zero _)
    | succ n1 ih6 =>
      intro h3 x5 hI fr fl4 m10 hz
      refine R_iload_n (k := 2) rfl rfl rfl ?_
      refine R_bipush 60 rfl rfl ?_
      refine N_icmp_gt (a := x5.toInt) (b := 60) 21 rfl rfl rfl (by decide) (fun c11 => ?_) (fun c11 => ?_)
      · refine R_iconst 0 rfl rfl ?_
        refine R_istore_n (k := 2) rfl [(2, .inl 0), (0, .inr (.inr (.inl 87))), (1, .inl a0)] rfl rfl (by decide) ?_
        refine R_iconst 0 rfl rfl ?_
        refine R_istore_n (k := 3) rfl [(3, .inl 0), (2, .inl 0), (0, .inr (.inr (.inl 87))), (1, .inl a0)] rfl rfl (by decide) ?_
        have lp13 : ∀ (n12 : Nat) (h14 : PH) (x16 : Int32) (x17 : Int32), INV h14 → FR [93] h h14 → FR [93] h3 h14 → 0 ≤ x16.toInt → 0 ≤ x17.toInt ∧ x17.toInt ≤ 720 → (720 - x17.toInt).toNat < n12 → RUN d_X3_worstBy 25 [(3, .inl x17), (2, .inl x16), (0, .inr (.inr (.inl 87))), (1, .inl a0)] [] h14 (q_X3_worstBy h a0) := by
          intro n12
          induction n12 with
          | zero => intro h14 x16 x17 m19 m20 m21 m22 m23 hz; exact absurd hz (Nat.not_lt_zero _)
          | succ n12 ih18 =>
            intro h14 x16 x17 hI fr fl15 m22 m23 hz
            have fl4 : FR [93] h h14 := fl4.trans fl15 (by decide)
            refine R_iload_n (k := 3) rfl rfl rfl ?_
            refine R_aload_n (k := 0) rfl rfl rfl ?_
            refine R_getf_i (j := 8) rfl ft_3_38 sh_87 rfl ?_
            have b24 : (0 : Int) ≤ (h14.1 87 8).toInt ∧ (h14.1 87 8).toInt ≤ 720 := hI.1 87 8
            refine N_icmp_ge (a := x17.toInt) (b := (h14.1 87 8).toInt) 80 rfl rfl rfl rfl (fun c25 => ?_) (fun c25 => ?_)
            · refine R_iload_n (k := 2) rfl rfl rfl ?_
              have b26 := i_rng x16
              exact R_iret rfl rfl rfl ⟨hI, fr, trivial, _, rfl, by omega⟩
            · refine R_aload_n (k := 0) rfl rfl rfl ?_
              refine R_getf_r (j := 3) rfl ft_3_21 sh_87 rfl ?_
              refine R_aload_n (k := 0) rfl rfl rfl ?_
              refine R_getf_r (j := 4) rfl ft_3_25 sh_87 rfl ?_
              refine R_iload_n (k := 3) rfl rfl rfl ?_
              refine R_iald rfl sh_92 ⟨by omega, by omega⟩ ?_
              refine N_bd (lo := 0) (hi := 719) (hI.1 92 _) (fun x27 q28 => ?_)
              refine R_lald rfl sh_91 ⟨by omega, by omega⟩ ?_
              refine N_anyL (fun w29 => ?_)
              refine R_iload_n (k := 1) rfl rfl rfl ?_
              refine N_i2l rfl (fun w30 q31 => ?_)
              refine R_callS (As := [.inr (.inl w29), .inr (.inl w30)]) (rest := []) rfl mt_3_i95 (by decide) pp_X3_thrownTo (by decide) rfl rfl (Nat.le_of_ble_eq_true rfl) (Nat.le_of_ble_eq_true rfl) ((k_X3_thrownTo h14 hI w29 w30).mono (fun r32 h33 p34 => ?_))
              obtain ⟨rfl, x37, rfl, q38, zq35, zq36, -⟩ := p34
              show RUN d_X3_worstBy 49 [(3, .inl x17), (2, .inl x16), (0, .inr (.inr (.inl 87))), (1, .inl a0)] [.inl x37] h14 _
              refine R_istore (k := 4) [(4, .inl x37), (3, .inl x17), (2, .inl x16), (0, .inr (.inr (.inl 87))), (1, .inl a0)] rfl rfl (by decide) ?_
              refine R_aload_n (k := 0) rfl rfl rfl ?_
              refine R_getf_r (j := 5) rfl ft_3_28 sh_87 rfl ?_
              refine R_iload (k := 4) rfl rfl ?_
              refine R_dup2 rfl ?_
              refine R_iald rfl sh_93 ⟨by omega, by omega⟩ ?_
              refine N_any (fun x39 => ?_)
              refine R_iconst 1 rfl rfl ?_
              have b40 := i_rng x39
              refine R_iadd rfl ?_
              refine N_any (fun x41 => ?_)
              refine K_iast (a := x37.toInt) (lo := (-2147483648)) (hi' := 2147483647) rfl sh_93 rfl ⟨by omega, by omega⟩ hI (by decide) rfl (i_rng _) fr (by decide) (fun h42 g43 hI fr => ?_)
              have fl15 : FR [93] h3 h42 := by rw [g43]; exact FR_wI _ _ fl15 (by decide)
              have fl4 : FR [93] h h42 := by rw [g43]; exact FR_wI _ _ fl4 (by decide)
              have s44 : (h42.1 87 8).toInt = (h14.1 87 8).toInt := by rw [g43, wI_ne _ _ _ (by decide)]
              refine R_iload_n (k := 2) rfl rfl rfl ?_
              refine R_aload_n (k := 0) rfl rfl rfl ?_
              refine R_getf_r (j := 5) rfl ft_3_28 sh_87 rfl ?_
              refine R_iload (k := 4) rfl rfl ?_
              refine R_iald rfl sh_93 ⟨by omega, by omega⟩ ?_
              refine N_any (fun x45 => ?_)
              refine N_max (a := x16.toInt) (b := x45.toInt) rfl mt_3_i99 rfl rfl ⟨by decide, by decide, Nat.le_of_ble_eq_true rfl⟩ (fun x46 q47 => ?_)
              refine R_istore_n (k := 2) rfl [(2, .inl x46), (4, .inl x37), (3, .inl x17), (0, .inr (.inr (.inl 87))), (1, .inl a0)] rfl rfl (by decide) ?_
              refine N_iinc (a := x17.toInt) (c := 1) (fun w => [(3, .inl w), (2, .inl x46), (4, .inl x37), (0, .inr (.inr (.inl 87))), (1, .inl a0)]) rfl rfl (fun _ => rfl) (by decide) rfl (by decide) (by omega) (fun x48 q49 => ?_)
              refine R_goto 25 rfl rfl ?_
              have b50 := i_rng x46
              exact RUN_weak (psub_cons rfl (psub_cons rfl (psub_cons rfl (psub_cons rfl (psub_nil _))))) (ih18 h42 x46 x48 hI fr fl15 (by omega) (by omega) (by omega))
        exact lp13 _ h3 (0 : Int32) (0 : Int32) hI fr (FR.rf _ _) (by decide) (by decide) (Nat.lt_succ_self _)
      · refine R_aload_n (k := 0) rfl rfl rfl ?_
        refine R_getf_r (j := 5) rfl ft_3_28 sh_87 rfl ?_
        refine R_iload_n (k := 2) rfl rfl rfl ?_
        refine R_iconst 0 rfl rfl ?_
        refine K_iast (a := x5.toInt) (lo := (-2147483648)) (hi' := 2147483647) rfl sh_93 rfl ⟨by omega, by omega⟩ hI (by decide) rfl (by decide) fr (by decide) (fun h51 g52 hI fr => ?_)
        have fl4 : FR [93] h h51 := by rw [g52]; exact FR_wI _ _ fl4 (by decide)
        refine N_iinc (a := x5.toInt) (c := 1) (fun w => [(2, .inl w), (0, .inr (.inr (.inl 87))), (1, .inl a0)]) rfl rfl (fun _ => rfl) (by decide) rfl (by decide) (by omega) (fun x53 q54 => ?_)
        refine R_goto 2 rfl rfl ?_
        exact RUN_weak (psub_cons rfl (psub_cons rfl (psub_cons rfl (psub_nil _)))) (ih6 h51 x53 hI fr fl4 (by omega) (by omega))
  exact lp2 _ h (0 : Int32) hI fr (FR.rf _ _) (by decide) (Nat.lt_succ_self _)
abbrev q_X3_secondToAsk (h : PH) (a0 : Int32) : Option PV → PH → Prop := fun r h' => INV h' ∧ FR [93] h h' ∧ (True) ∧ ∃ z : Int32, r = some (.inl z) ∧ (((-1) ≤ z.toInt ∧ z.toInt ≤ 59))
set_option maxHeartbeats 4000000 in
set_option maxRecDepth 100000 in
theorem k_X3_secondToAsk (h : PH) (hI : INV h) (a0 : Int32) (h0a : 1 ≤ a0.toInt ∧ a0.toInt ≤ 60) : CALL d_X3_secondToAsk [.inr (.inr (.inl 87)), .inl a0] h (q_X3_secondToAsk h a0) := by
  show RUN d_X3_secondToAsk 0 [(0, .inr (.inr (.inl 87))), (1, .inl a0)] [] h _
  have fr : FR [93] h h := FR.rf _ _
  refine R_aload_n (k := 0) rfl rfl rfl ?_
  refine R_getf_i (j := 8) rfl ft_3_38 sh_87 rfl ?_
  have b1 : (0 : Int) ≤ (h.1 87 8).toInt ∧ (h.1 87 8).toInt ≤ 720 := hI.1 87 8
  refine R_istore_n (k := 2) rfl [(2, .inl (h.1 87 8)), (0, .inr (.inr (.inl 87))), (1, .inl a0)] rfl rfl (by decide) ?_
  refine R_iconst (-1) rfl rfl ?_
  refine R_istore_n (k := 3) rfl [(3, .inl (-1)), (2, .inl (h.1 87 8)), (0, .inr (.inr (.inl 87))), (1, .inl a0)] rfl rfl (by decide) ?_
  refine R_iconst 0 rfl rfl ?_
  refine R_istore (k := 4) [(4, .inl 0), (3, .inl (-1)), (2, .inl (h.1 87 8)), (0, .inr (.inr (.inl 87))), (1, .inl a0)] rfl rfl (by decide) ?_
  have lp3 : ∀ (n2 : Nat) (h4 : PH) (x6 : Int32) (x7 : Int32) (x8 : Int32), INV h4 → FR [93] h h4 → FR [93] h h4 → 0 ≤ x6.toInt ∧ x6.toInt ≤ 720 → (-1) ≤ x7.toInt ∧ x7.toInt ≤ 59 → 0 ≤ x8.toInt ∧ x8.toInt ≤ 60 → x6.toInt ≤ (h.1 87 8).toInt + 0 → x7.toInt ≤ x8.toInt + (-1) → (60 - x8.toInt).toNat < n2 → RUN d_X3_secondToAsk 10 [(4, .inl x8), (3, .inl x7), (2, .inl x6), (0, .inr (.inr (.inl 87))), (1, .inl a0)] [] h4 (q_X3_secondToAsk h a0) := by
    intro n2
    induction n2 with
    | zero => intro h4 x6 x7 x8 m10 m11 m12 m13 m14 m15 m16 m17 hz; exact absurd hz (Nat.not_lt_zero _)
    | succ n2 ih9 =>
      intro h4 x6 x7 x8 hI fr fl5 m13 m14 m15 m16 m17 hz
      have s18 : (h4.1 87 8).toInt = (h.1 87 8).toInt := by rw [(fl5 87 (by decide)).1]
      refine R_iload (k := 4) rfl rfl ?_
      refine R_iload_n (k := 1) rfl rfl rfl ?_
      refine N_icmp_ge (a := x8.toInt) (b := a0.toInt) 42 rfl rfl rfl rfl (fun c19 => ?_) (fun c19 => ?_)
      · refine R_iload_n (k := 3) rfl rfl rfl ?_
        exact R_iret rfl rfl rfl ⟨hI, fr, trivial, _, rfl, by omega⟩
      · refine R_aload_n (k := 0) rfl rfl rfl ?_
        refine R_iload (k := 4) rfl rfl ?_
        refine R_callV (v := .inr (.inr (.inl 87))) (As := [.inl x8]) (rest := []) rfl mt_3_i92 pp_X3_worstBy (by decide) rfl rfl rfl (Nat.le_of_ble_eq_true rfl) (Nat.le_of_ble_eq_true rfl) ((k_X3_worstBy h4 hI x8 (by omega)).mono (fun r20 h21 p22 => ?_))
        obtain ⟨hJ, fj, -, x23, rfl, q24⟩ := p22
        have f25 := fj
        have fr := fr.trans fj (by decide)
        have hI := hJ
        have fl5 : FR [93] h h21 := fl5.trans fj (by decide)
        have s26 : (h21.1 87 8).toInt = (h4.1 87 8).toInt := by rw [(f25 87 (by decide)).1]
        show RUN d_X3_secondToAsk 22 [(4, .inl x8), (3, .inl x7), (2, .inl x6), (0, .inr (.inr (.inl 87))), (1, .inl a0)] [.inl x23] h21 _
        refine R_istore (k := 5) [(5, .inl x23), (4, .inl x8), (3, .inl x7), (2, .inl x6), (0, .inr (.inr (.inl 87))), (1, .inl a0)] rfl rfl (by decide) ?_
        refine R_iload (k := 5) rfl rfl ?_
        refine R_iload_n (k := 2) rfl rfl rfl ?_
        refine N_icmp_ge (a := x23.toInt) (b := x6.toInt) 36 rfl rfl rfl rfl (fun c27 => ?_) (fun c27 => ?_)
        · refine N_iinc (a := x8.toInt) (c := 1) (fun w => [(4, .inl w), (5, .inl x23), (3, .inl x7), (2, .inl x6), (0, .inr (.inr (.inl 87))), (1, .inl a0)]) rfl rfl (fun _ => rfl) (by decide) rfl (by decide) (by omega) (fun x28 q29 => ?_)
          refine R_goto 10 rfl rfl ?_
          exact RUN_weak (psub_cons rfl (psub_cons rfl (psub_cons rfl (psub_cons rfl (psub_cons rfl (psub_nil _)))))) (ih9 h21 x6 x7 x28 hI fr fl5 (by omega) (by omega) (by omega) (by omega) (by omega) (by omega))
        · refine R_iload (k := 5) rfl rfl ?_
          refine R_istore_n (k := 2) rfl [(2, .inl x23), (5, .inl x23), (4, .inl x8), (3, .inl x7), (0, .inr (.inr (.inl 87))), (1, .inl a0)] rfl rfl (by decide) ?_
          refine R_iload (k := 4) rfl rfl ?_
          refine R_istore_n (k := 3) rfl [(3, .inl x8), (2, .inl x23), (5, .inl x23), (4, .inl x8), (0, .inr (.inr (.inl 87))), (1, .inl a0)] rfl rfl (by decide) ?_
          refine N_iinc (a := x8.toInt) (c := 1) (fun w => [(4, .inl w), (3, .inl x8), (2, .inl x23), (5, .inl x23), (0, .inr (.inr (.inl 87))), (1, .inl a0)]) rfl rfl (fun _ => rfl) (by decide) rfl (by decide) (by omega) (fun x30 q31 => ?_)
          refine R_goto 10 rfl rfl ?_
          exact RUN_weak (psub_cons rfl (psub_cons rfl (psub_cons rfl (psub_cons rfl (psub_cons rfl (psub_nil _)))))) (ih9 h21 x23 x8 x30 hI fr fl5 (by omega) (by omega) (by omega) (by omega) (by omega) (by omega))
  have k32 : ((-1) : Int32).toInt = (-1) := by decide
  have k33 : (0 : Int32).toInt = 0 := by decide
  exact lp3 _ h (h.1 87 8) ((-1) : Int32) (0 : Int32) hI fr (FR.rf _ _) (by omega) (by decide) (by decide) (by omega) (by omega) (Nat.lt_succ_self _)
abbrev q_X8_ask (h : PH) (a0 : Int32) : Option PV → PH → Prop := fun r h' => INV h' ∧ FR [0, 70, 71, 72, 73, 74, 75, 76, 77, 78, 79, 80, 81, 82, 83, 84, 85, 86, 87, 88, 89, 90, 91, 92, 93] h h' ∧ (True) ∧ ∃ z : Int32, r = some (.inl z) ∧ (((-6) ≤ z.toInt ∧ z.toInt ≤ 59))
set_option maxHeartbeats 4000000 in
set_option maxRecDepth 100000 in
theorem k_X8_ask (h : PH) (hI : INV h) (a0 : Int32) : CALL d_X8_ask [.inr (.inr (.inl 0)), .inl a0] h (q_X8_ask h a0) := by
  show RUN d_X8_ask 0 [(0, .inr (.inr (.inl 0))), (1, .inl a0)] [] h _
  have b1 := i_rng a0
  have fr : FR [0, 70, 71, 72, 73, 74, 75, 76, 77, 78, 79, 80, 81, 82, 83, 84, 85, 86, 87, 88, 89, 90, 91, 92, 93] h h := FR.rf _ _
  refine R_aload_n (k := 0) rfl rfl rfl ?_
  refine R_iload_n (k := 1) rfl rfl rfl ?_
  have b2 : (0 : Int) ≤ (h.1 17 0).toInt ∧ (h.1 17 0).toInt ≤ 60 := hI.1 17 0
  have e3 : 0 < (h.1 17 10).toInt → 1 ≤ (h.1 17 0).toInt := hI.2.1
  refine R_callV (v := .inr (.inr (.inl 0))) (As := [.inl a0]) (rest := []) rfl mt_8_i310 pp_X8_seenRefusal (by decide) rfl rfl rfl (Nat.le_of_ble_eq_true rfl) (Nat.le_of_ble_eq_true rfl) ((k_X8_seenRefusal h hI a0).mono (fun r4 h5 p6 => ?_))
  obtain ⟨rfl, x7, rfl, q8 | q8 | q8 | q8 | q8 | q8⟩ := p6
  · show RUN d_X8_ask 5 [(0, .inr (.inr (.inl 0))), (1, .inl a0)] [.inl x7] h _
    refine R_istore_n (k := 2) rfl [(2, .inl x7), (0, .inr (.inr (.inl 0))), (1, .inl a0)] rfl rfl (by decide) ?_
    refine R_iload_n (k := 2) rfl rfl rfl ?_
    refine N_if_eq (a := x7.toInt) 12 rfl rfl rfl (fun c9 => ?_) (fun c9 => ?_)
    · exfalso; omega
    · refine R_iload_n (k := 2) rfl rfl rfl ?_
      exact R_iret rfl rfl rfl ⟨hI, fr, trivial, _, rfl, by omega⟩
  · show RUN d_X8_ask 5 [(0, .inr (.inr (.inl 0))), (1, .inl a0)] [.inl x7] h _
    refine R_istore_n (k := 2) rfl [(2, .inl x7), (0, .inr (.inr (.inl 0))), (1, .inl a0)] rfl rfl (by decide) ?_
    refine R_iload_n (k := 2) rfl rfl rfl ?_
    refine N_if_eq (a := x7.toInt) 12 rfl rfl rfl (fun c10 => ?_) (fun c10 => ?_)
    · exfalso; omega
    · refine R_iload_n (k := 2) rfl rfl rfl ?_
      exact R_iret rfl rfl rfl ⟨hI, fr, trivial, _, rfl, by omega⟩
  · show RUN d_X8_ask 5 [(0, .inr (.inr (.inl 0))), (1, .inl a0)] [.inl x7] h _
    refine R_istore_n (k := 2) rfl [(2, .inl x7), (0, .inr (.inr (.inl 0))), (1, .inl a0)] rfl rfl (by decide) ?_
    refine R_iload_n (k := 2) rfl rfl rfl ?_
    refine N_if_eq (a := x7.toInt) 12 rfl rfl rfl (fun c11 => ?_) (fun c11 => ?_)
    · exfalso; omega
    · refine R_iload_n (k := 2) rfl rfl rfl ?_
      exact R_iret rfl rfl rfl ⟨hI, fr, trivial, _, rfl, by omega⟩
  · show RUN d_X8_ask 5 [(0, .inr (.inr (.inl 0))), (1, .inl a0)] [.inl x7] h _
    refine R_istore_n (k := 2) rfl [(2, .inl x7), (0, .inr (.inr (.inl 0))), (1, .inl a0)] rfl rfl (by decide) ?_
    refine R_iload_n (k := 2) rfl rfl rfl ?_
    refine N_if_eq (a := x7.toInt) 12 rfl rfl rfl (fun c12 => ?_) (fun c12 => ?_)
    · exfalso; omega
    · refine R_iload_n (k := 2) rfl rfl rfl ?_
      exact R_iret rfl rfl rfl ⟨hI, fr, trivial, _, rfl, by omega⟩
  · show RUN d_X8_ask 5 [(0, .inr (.inr (.inl 0))), (1, .inl a0)] [.inl x7] h _
    refine R_istore_n (k := 2) rfl [(2, .inl x7), (0, .inr (.inr (.inl 0))), (1, .inl a0)] rfl rfl (by decide) ?_
    refine R_iload_n (k := 2) rfl rfl rfl ?_
    refine N_if_eq (a := x7.toInt) 12 rfl rfl rfl (fun c13 => ?_) (fun c13 => ?_)
    · refine R_aload_n (k := 0) rfl rfl rfl ?_
      refine R_callV (v := .inr (.inr (.inl 0))) (As := []) (rest := []) rfl mt_8_i292 pp_X8_played (by decide) rfl rfl rfl (Nat.le_of_ble_eq_true rfl) (Nat.le_of_ble_eq_true rfl) ((k_X8_played h hI).mono (fun r14 h15 p16 => ?_))
      obtain ⟨hJ, fj, -, rfl⟩ := p16
      have f17 := fj
      have fr := fr.trans fj (by decide)
      have hI := hJ
      have s18 : (h15.1 17 10).toInt = (h.1 17 10).toInt := by rw [(f17 17 (by decide)).1]
      have s19 : (h15.1 17 0).toInt = (h.1 17 0).toInt := by rw [(f17 17 (by decide)).1]
      show RUN d_X8_ask 16 [(2, .inl x7), (0, .inr (.inr (.inl 0))), (1, .inl a0)] [.inr (.inr (.inl 87))] h15 _
      refine R_aload_n (k := 0) rfl rfl rfl ?_
      refine R_getf_r (j := 6) rfl ft_8_42 sh_0 rfl ?_
      refine R_iload_n (k := 1) rfl rfl rfl ?_
      refine R_callV (v := .inr (.inr (.inl 87))) (As := [.inr (.inr (.inl 66)), .inl a0]) (rest := []) rfl mt_8_i313 pp_X3_choose (by decide) rfl rfl rfl (Nat.le_of_ble_eq_true rfl) (Nat.le_of_ble_eq_true rfl) ((k_X3_choose h15 hI a0 (by omega)).mono (fun r20 h21 p22 => ?_))
      obtain ⟨hJ, fj, -, rfl⟩ := p22
      have f23 := fj
      have fr := fr.trans fj (by decide)
      have hI := hJ
      have s24 : (h21.1 17 10).toInt = (h15.1 17 10).toInt := by rw [(f23 17 (by decide)).1]
      have s25 : (h21.1 17 0).toInt = (h15.1 17 0).toInt := by rw [(f23 17 (by decide)).1]
      show RUN d_X8_ask 24 [(2, .inl x7), (0, .inr (.inr (.inl 0))), (1, .inl a0)] [] h21 _
      refine R_aload_n (k := 0) rfl rfl rfl ?_
      refine R_getf_r (j := 9) rfl ft_8_63 sh_0 rfl ?_
      refine R_aload_n (k := 0) rfl rfl rfl ?_
      refine R_getf_r (j := 3) rfl ft_8_28 sh_0 rfl ?_
      refine R_getf_r (j := 0) rfl ft_8_109 sh_16 rfl ?_
      refine R_iconst 0 rfl rfl ?_
      refine R_iald rfl sh_17 (by decide) ?_
      show RUN d_X8_ask 37 [(2, .inl x7), (0, .inr (.inr (.inl 0))), (1, .inl a0)] [.inl (h21.1 17 0), .inr (.inr (.inl 87))] h21 _
      refine R_callV (v := .inr (.inr (.inl 87))) (As := [.inl (h21.1 17 0)]) (rest := []) rfl mt_8_i323 pp_X3_secondToAsk (by decide) rfl rfl rfl (Nat.le_of_ble_eq_true rfl) (Nat.le_of_ble_eq_true rfl) ((k_X3_secondToAsk h21 hI (h21.1 17 0) (by omega)).mono (fun r26 h27 p28 => ?_))
      obtain ⟨hJ, fj, -, x29, rfl, q30⟩ := p28
      have f31 := fj
      have fr := fr.trans fj (by decide)
      have hI := hJ
      have s32 : (h27.1 17 10).toInt = (h21.1 17 10).toInt := by rw [(f31 17 (by decide)).1]
      have s33 : (h27.1 17 0).toInt = (h21.1 17 0).toInt := by rw [(f31 17 (by decide)).1]
      show RUN d_X8_ask 40 [(2, .inl x7), (0, .inr (.inr (.inl 0))), (1, .inl a0)] [.inl x29] h27 _
      exact R_iret rfl rfl rfl ⟨hI, fr, trivial, _, rfl, by omega⟩
    · exfalso; omega
  · show RUN d_X8_ask 5 [(0, .inr (.inr (.inl 0))), (1, .inl a0)] [.inl x7] h _
    refine R_istore_n (k := 2) rfl [(2, .inl x7), (0, .inr (.inr (.inl 0))), (1, .inl a0)] rfl rfl (by decide) ?_
    refine R_iload_n (k := 2) rfl rfl rfl ?_
    refine N_if_eq (a := x7.toInt) 12 rfl rfl rfl (fun c34 => ?_) (fun c34 => ?_)
    · exfalso; omega
    · refine R_iload_n (k := 2) rfl rfl rfl ?_
      exact R_iret rfl rfl rfl ⟨hI, fr, trivial, _, rfl, by omega⟩
abbrev q_X9_ask (h : PH) (a0 : Int32) : Option PV → PH → Prop := fun r h' => INV h' ∧ FR [96, 103, 104, 105, 106, 107, 108, 109, 110, 111, 112, 113, 114, 115, 116, 117, 118, 119, 124, 125] h h' ∧ (True) ∧ ∃ z : Int32, r = some (.inl z) ∧ (((-6) ≤ z.toInt ∧ z.toInt ≤ 59))
set_option maxHeartbeats 4000000 in
set_option maxRecDepth 100000 in
theorem k_X9_ask (h : PH) (hI : INV h) (a0 : Int32) : CALL d_X9_ask [.inr (.inr (.inl 96)), .inl a0] h (q_X9_ask h a0) := by
  show RUN d_X9_ask 0 [(0, .inr (.inr (.inl 96))), (1, .inl a0)] [] h _
  have b1 := i_rng a0
  have fr : FR [96, 103, 104, 105, 106, 107, 108, 109, 110, 111, 112, 113, 114, 115, 116, 117, 118, 119, 124, 125] h h := FR.rf _ _
  refine R_aload_n (k := 0) rfl rfl rfl ?_
  refine R_iload_n (k := 1) rfl rfl rfl ?_
  refine R_callV (v := .inr (.inr (.inl 96))) (As := [.inl a0]) (rest := []) rfl mt_9_i451 pp_X9_layFits (by decide) rfl rfl rfl (Nat.le_of_ble_eq_true rfl) (Nat.le_of_ble_eq_true rfl) ((k_X9_layFits h hI a0).mono (fun r2 h3 p4 => ?_))
  obtain ⟨hJ, fj, -, x5, rfl, q6⟩ := p4
  have f7 := fj
  have fr := fr.trans fj (by decide)
  have hI := hJ
  show RUN d_X9_ask 5 [(0, .inr (.inr (.inl 96))), (1, .inl a0)] [.inl x5] h3 _
  refine R_istore_n (k := 2) rfl [(2, .inl x5), (0, .inr (.inr (.inl 96))), (1, .inl a0)] rfl rfl (by decide) ?_
  refine R_iload_n (k := 2) rfl rfl rfl ?_
  refine N_if_ge (a := x5.toInt) 14 rfl rfl rfl (fun c8 => ?_) (fun c8 => ?_)
  · refine R_aload_n (k := 0) rfl rfl rfl ?_
    refine R_callV (v := .inr (.inr (.inl 96))) (As := []) (rest := []) rfl mt_9_i457 pp_X9_askOf (by decide) rfl rfl rfl (Nat.le_of_ble_eq_true rfl) (Nat.le_of_ble_eq_true rfl) ((k_X9_askOf h3 hI).mono (fun r9 h10 p11 => ?_))
    obtain ⟨hJ, fj, -, x12, rfl, q13⟩ := p11
    have f14 := fj
    have fr := fr.trans fj (by decide)
    have hI := hJ
    show RUN d_X9_ask 18 [(2, .inl x5), (0, .inr (.inr (.inl 96))), (1, .inl a0)] [.inl x12] h10 _
    exact R_iret rfl rfl rfl ⟨hI, fr, trivial, _, rfl, by omega⟩
  · refine R_iload_n (k := 2) rfl rfl rfl ?_
    refine R_goto 18 rfl rfl ?_
    exact R_iret rfl rfl rfl ⟨hI, fr, trivial, _, rfl, by omega⟩
abbrev q_X8_leaves (h : PH) (a0 : Int32) : Option PV → PH → Prop := fun r h' => INV h' ∧ FR [0, 70, 71, 72, 73, 74, 75, 76, 77, 78, 79, 80, 81, 82, 83, 84, 85, 86, 87, 88, 89, 90, 91, 92, 93] h h' ∧ (True) ∧ ∃ z : Int32, r = some (.inl z) ∧ (((-6) ≤ z.toInt ∧ z.toInt ≤ 2147483647))
set_option maxHeartbeats 4000000 in
set_option maxRecDepth 100000 in
theorem k_X8_leaves (h : PH) (hI : INV h) (a0 : Int32) : CALL d_X8_leaves [.inr (.inr (.inl 0)), .inl a0] h (q_X8_leaves h a0) := by
  show RUN d_X8_leaves 0 [(0, .inr (.inr (.inl 0))), (1, .inl a0)] [] h _
  have b1 := i_rng a0
  have fr : FR [0, 70, 71, 72, 73, 74, 75, 76, 77, 78, 79, 80, 81, 82, 83, 84, 85, 86, 87, 88, 89, 90, 91, 92, 93] h h := FR.rf _ _
  refine R_aload_n (k := 0) rfl rfl rfl ?_
  refine R_iload_n (k := 1) rfl rfl rfl ?_
  have b2 : (0 : Int) ≤ (h.1 17 0).toInt ∧ (h.1 17 0).toInt ≤ 60 := hI.1 17 0
  have e3 : 0 < (h.1 17 10).toInt → 1 ≤ (h.1 17 0).toInt := hI.2.1
  refine R_callV (v := .inr (.inr (.inl 0))) (As := [.inl a0]) (rest := []) rfl mt_8_i310 pp_X8_seenRefusal (by decide) rfl rfl rfl (Nat.le_of_ble_eq_true rfl) (Nat.le_of_ble_eq_true rfl) ((k_X8_seenRefusal h hI a0).mono (fun r4 h5 p6 => ?_))
  obtain ⟨rfl, x7, rfl, q8 | q8 | q8 | q8 | q8 | q8⟩ := p6
  · show RUN d_X8_leaves 5 [(0, .inr (.inr (.inl 0))), (1, .inl a0)] [.inl x7] h _
    refine R_istore_n (k := 2) rfl [(2, .inl x7), (0, .inr (.inr (.inl 0))), (1, .inl a0)] rfl rfl (by decide) ?_
    refine R_iload_n (k := 2) rfl rfl rfl ?_
    refine N_if_eq (a := x7.toInt) 12 rfl rfl rfl (fun c9 => ?_) (fun c9 => ?_)
    · exfalso; omega
    · refine R_iload_n (k := 2) rfl rfl rfl ?_
      exact R_iret rfl rfl rfl ⟨hI, fr, trivial, _, rfl, by omega⟩
  · show RUN d_X8_leaves 5 [(0, .inr (.inr (.inl 0))), (1, .inl a0)] [.inl x7] h _
    refine R_istore_n (k := 2) rfl [(2, .inl x7), (0, .inr (.inr (.inl 0))), (1, .inl a0)] rfl rfl (by decide) ?_
    refine R_iload_n (k := 2) rfl rfl rfl ?_
    refine N_if_eq (a := x7.toInt) 12 rfl rfl rfl (fun c10 => ?_) (fun c10 => ?_)
    · exfalso; omega
    · refine R_iload_n (k := 2) rfl rfl rfl ?_
      exact R_iret rfl rfl rfl ⟨hI, fr, trivial, _, rfl, by omega⟩
  · show RUN d_X8_leaves 5 [(0, .inr (.inr (.inl 0))), (1, .inl a0)] [.inl x7] h _
    refine R_istore_n (k := 2) rfl [(2, .inl x7), (0, .inr (.inr (.inl 0))), (1, .inl a0)] rfl rfl (by decide) ?_
    refine R_iload_n (k := 2) rfl rfl rfl ?_
    refine N_if_eq (a := x7.toInt) 12 rfl rfl rfl (fun c11 => ?_) (fun c11 => ?_)
    · exfalso; omega
    · refine R_iload_n (k := 2) rfl rfl rfl ?_
      exact R_iret rfl rfl rfl ⟨hI, fr, trivial, _, rfl, by omega⟩
  · show RUN d_X8_leaves 5 [(0, .inr (.inr (.inl 0))), (1, .inl a0)] [.inl x7] h _
    refine R_istore_n (k := 2) rfl [(2, .inl x7), (0, .inr (.inr (.inl 0))), (1, .inl a0)] rfl rfl (by decide) ?_
    refine R_iload_n (k := 2) rfl rfl rfl ?_
    refine N_if_eq (a := x7.toInt) 12 rfl rfl rfl (fun c12 => ?_) (fun c12 => ?_)
    · exfalso; omega
    · refine R_iload_n (k := 2) rfl rfl rfl ?_
      exact R_iret rfl rfl rfl ⟨hI, fr, trivial, _, rfl, by omega⟩
  · show RUN d_X8_leaves 5 [(0, .inr (.inr (.inl 0))), (1, .inl a0)] [.inl x7] h _
    refine R_istore_n (k := 2) rfl [(2, .inl x7), (0, .inr (.inr (.inl 0))), (1, .inl a0)] rfl rfl (by decide) ?_
    refine R_iload_n (k := 2) rfl rfl rfl ?_
    refine N_if_eq (a := x7.toInt) 12 rfl rfl rfl (fun c13 => ?_) (fun c13 => ?_)
    · refine R_aload_n (k := 0) rfl rfl rfl ?_
      refine R_callV (v := .inr (.inr (.inl 0))) (As := []) (rest := []) rfl mt_8_i292 pp_X8_played (by decide) rfl rfl rfl (Nat.le_of_ble_eq_true rfl) (Nat.le_of_ble_eq_true rfl) ((k_X8_played h hI).mono (fun r14 h15 p16 => ?_))
      obtain ⟨hJ, fj, -, rfl⟩ := p16
      have f17 := fj
      have fr := fr.trans fj (by decide)
      have hI := hJ
      have s18 : (h15.1 17 10).toInt = (h.1 17 10).toInt := by rw [(f17 17 (by decide)).1]
      have s19 : (h15.1 17 0).toInt = (h.1 17 0).toInt := by rw [(f17 17 (by decide)).1]
      show RUN d_X8_leaves 16 [(2, .inl x7), (0, .inr (.inr (.inl 0))), (1, .inl a0)] [.inr (.inr (.inl 87))] h15 _
      refine R_aload_n (k := 0) rfl rfl rfl ?_
      refine R_getf_r (j := 6) rfl ft_8_42 sh_0 rfl ?_
      refine R_iload_n (k := 1) rfl rfl rfl ?_
      refine R_callV (v := .inr (.inr (.inl 87))) (As := [.inr (.inr (.inl 66)), .inl a0]) (rest := []) rfl mt_8_i313 pp_X3_choose (by decide) rfl rfl rfl (Nat.le_of_ble_eq_true rfl) (Nat.le_of_ble_eq_true rfl) ((k_X3_choose h15 hI a0 (by omega)).mono (fun r20 h21 p22 => ?_))
      obtain ⟨hJ, fj, -, rfl⟩ := p22
      have f23 := fj
      have fr := fr.trans fj (by decide)
      have hI := hJ
      have s24 : (h21.1 17 10).toInt = (h15.1 17 10).toInt := by rw [(f23 17 (by decide)).1]
      have s25 : (h21.1 17 0).toInt = (h15.1 17 0).toInt := by rw [(f23 17 (by decide)).1]
      show RUN d_X8_leaves 24 [(2, .inl x7), (0, .inr (.inr (.inl 0))), (1, .inl a0)] [] h21 _
      refine R_aload_n (k := 0) rfl rfl rfl ?_
      refine R_getf_r (j := 9) rfl ft_8_63 sh_0 rfl ?_
      refine R_aload_n (k := 0) rfl rfl rfl ?_
      refine R_getf_r (j := 3) rfl ft_8_28 sh_0 rfl ?_
      refine R_getf_r (j := 0) rfl ft_8_109 sh_16 rfl ?_
      refine R_iconst 0 rfl rfl ?_
      refine R_iald rfl sh_17 (by decide) ?_
      show RUN d_X8_leaves 37 [(2, .inl x7), (0, .inr (.inr (.inl 0))), (1, .inl a0)] [.inl (h21.1 17 0), .inr (.inr (.inl 87))] h21 _
      refine R_callV (v := .inr (.inr (.inl 87))) (As := [.inl (h21.1 17 0)]) (rest := []) rfl mt_8_i323 pp_X3_secondToAsk (by decide) rfl rfl rfl (Nat.le_of_ble_eq_true rfl) (Nat.le_of_ble_eq_true rfl) ((k_X3_secondToAsk h21 hI (h21.1 17 0) (by omega)).mono (fun r26 h27 p28 => ?_))
      obtain ⟨hJ, fj, -, x29, rfl, q30⟩ := p28
      have f31 := fj
      have fr := fr.trans fj (by decide)
      have hI := hJ
      have s32 : (h27.1 17 10).toInt = (h21.1 17 10).toInt := by rw [(f31 17 (by decide)).1]
      have s33 : (h27.1 17 0).toInt = (h21.1 17 0).toInt := by rw [(f31 17 (by decide)).1]
      show RUN d_X8_leaves 40 [(2, .inl x7), (0, .inr (.inr (.inl 0))), (1, .inl a0)] [.inl x29] h27 _
      refine R_istore_n (k := 3) rfl [(3, .inl x29), (2, .inl x7), (0, .inr (.inr (.inl 0))), (1, .inl a0)] rfl rfl (by decide) ?_
      refine R_iload_n (k := 3) rfl rfl rfl ?_
      refine R_iconst (-1) rfl rfl ?_
      refine N_icmp_ne (a := x29.toInt) (b := (-1)) 56 rfl rfl rfl (by decide) (fun c34 => ?_) (fun c34 => ?_)
      · refine R_aload_n (k := 0) rfl rfl rfl ?_
        refine R_getf_r (j := 9) rfl ft_8_63 sh_0 rfl ?_
        refine R_iload_n (k := 3) rfl rfl rfl ?_
        refine R_callV (v := .inr (.inr (.inl 87))) (As := [.inl x29]) (rest := []) rfl mt_8_i326 pp_X3_worstBy (by decide) rfl rfl rfl (Nat.le_of_ble_eq_true rfl) (Nat.le_of_ble_eq_true rfl) ((k_X3_worstBy h27 hI x29 (by omega)).mono (fun r35 h36 p37 => ?_))
        obtain ⟨hJ, fj, -, x38, rfl, q39⟩ := p37
        have f40 := fj
        have fr := fr.trans fj (by decide)
        have hI := hJ
        have s41 : (h36.1 17 10).toInt = (h27.1 17 10).toInt := by rw [(f40 17 (by decide)).1]
        have s42 : (h36.1 17 0).toInt = (h27.1 17 0).toInt := by rw [(f40 17 (by decide)).1]
        show RUN d_X8_leaves 64 [(3, .inl x29), (2, .inl x7), (0, .inr (.inr (.inl 0))), (1, .inl a0)] [.inl x38] h36 _
        have b43 := i_rng x38
        exact R_iret rfl rfl rfl ⟨hI, fr, trivial, _, rfl, by omega⟩
      · refine R_aload_n (k := 0) rfl rfl rfl ?_
        refine R_getf_r (j := 9) rfl ft_8_63 sh_0 rfl ?_
        refine R_getf_i (j := 8) rfl ft_8_317 sh_87 rfl ?_
        have b44 : (0 : Int) ≤ (h27.1 87 8).toInt ∧ (h27.1 87 8).toInt ≤ 720 := hI.1 87 8
        refine R_goto 64 rfl rfl ?_
        exact R_iret rfl rfl rfl ⟨hI, fr, trivial, _, rfl, by omega⟩
    · exfalso; omega
  · show RUN d_X8_leaves 5 [(0, .inr (.inr (.inl 0))), (1, .inl a0)] [.inl x7] h _
    refine R_istore_n (k := 2) rfl [(2, .inl x7), (0, .inr (.inr (.inl 0))), (1, .inl a0)] rfl rfl (by decide) ?_
    refine R_iload_n (k := 2) rfl rfl rfl ?_
    refine N_if_eq (a := x7.toInt) 12 rfl rfl rfl (fun c45 => ?_) (fun c45 => ?_)
    · exfalso; omega
    · refine R_iload_n (k := 2) rfl rfl rfl ?_
      exact R_iret rfl rfl rfl ⟨hI, fr, trivial, _, rfl, by omega⟩
abbrev q_X9_leaves (h : PH) (a0 : Int32) : Option PV → PH → Prop := fun r h' => INV h' ∧ FR [96, 103, 104, 105, 106, 107, 108, 109, 110, 111, 112, 113, 114, 115, 116, 117, 118, 119, 124, 125] h h' ∧ (True) ∧ ∃ z : Int32, r = some (.inl z) ∧ ((True))
set_option maxHeartbeats 4000000 in
set_option maxRecDepth 100000 in
theorem k_X9_leaves (h : PH) (hI : INV h) (a0 : Int32) : CALL d_X9_leaves [.inr (.inr (.inl 96)), .inl a0] h (q_X9_leaves h a0) := by
  show RUN d_X9_leaves 0 [(0, .inr (.inr (.inl 96))), (1, .inl a0)] [] h _
  have b1 := i_rng a0
  have fr : FR [96, 103, 104, 105, 106, 107, 108, 109, 110, 111, 112, 113, 114, 115, 116, 117, 118, 119, 124, 125] h h := FR.rf _ _
  refine R_aload_n (k := 0) rfl rfl rfl ?_
  refine R_iload_n (k := 1) rfl rfl rfl ?_
  refine R_callV (v := .inr (.inr (.inl 96))) (As := [.inl a0]) (rest := []) rfl mt_9_i451 pp_X9_layFits (by decide) rfl rfl rfl (Nat.le_of_ble_eq_true rfl) (Nat.le_of_ble_eq_true rfl) ((k_X9_layFits h hI a0).mono (fun r2 h3 p4 => ?_))
  obtain ⟨hJ, fj, -, x5, rfl, q6⟩ := p4
  have f7 := fj
  have fr := fr.trans fj (by decide)
  have hI := hJ
  show RUN d_X9_leaves 5 [(0, .inr (.inr (.inl 96))), (1, .inl a0)] [.inl x5] h3 _
  refine R_istore_n (k := 2) rfl [(2, .inl x5), (0, .inr (.inr (.inl 96))), (1, .inl a0)] rfl rfl (by decide) ?_
  refine R_iload_n (k := 2) rfl rfl rfl ?_
  refine N_if_ge (a := x5.toInt) 12 rfl rfl rfl (fun c8 => ?_) (fun c8 => ?_)
  · refine R_aload_n (k := 0) rfl rfl rfl ?_
    refine R_callV (v := .inr (.inr (.inl 96))) (As := []) (rest := []) rfl mt_9_i457 pp_X9_askOf (by decide) rfl rfl rfl (Nat.le_of_ble_eq_true rfl) (Nat.le_of_ble_eq_true rfl) ((k_X9_askOf h3 hI).mono (fun r9 h10 p11 => ?_))
    obtain ⟨hJ, fj, -, x12, rfl, q13⟩ := p11
    have f14 := fj
    have fr := fr.trans fj (by decide)
    have hI := hJ
    show RUN d_X9_leaves 16 [(2, .inl x5), (0, .inr (.inr (.inl 96))), (1, .inl a0)] [.inl x12] h10 _
    refine R_pop_i rfl ?_
    refine R_aload_n (k := 0) rfl rfl rfl ?_
    refine R_getf_i (j := 52) rfl ft_9_454 sh_96 rfl ?_
    exact R_iret rfl rfl rfl ⟨hI, fr, trivial, _, rfl, trivial⟩
  · refine R_iload_n (k := 2) rfl rfl rfl ?_
    exact R_iret rfl rfl rfl ⟨hI, fr, trivial, _, rfl, trivial⟩
abbrev q_X9_chance (h : PH) (a0 : Int32) (a1 : Int32) (a2 : Int32) : Option PV → PH → Prop := fun r h' => INV h' ∧ FR [96, 103, 104, 105, 106, 107, 108, 109, 110, 111, 112, 113, 114, 115, 116, 117, 118, 119] h h' ∧ (True) ∧ ∃ z : Int64, r = some (.inr (.inl z))
set_option maxHeartbeats 4000000 in
set_option maxRecDepth 100000 in
theorem k_X9_chance (h : PH) (hI : INV h) (a0 : Int32) (a1 : Int32) (a2 : Int32) : CALL d_X9_chance [.inr (.inr (.inl 96)), .inl a0, .inl a1, .inl a2] h (q_X9_chance h a0 a1 a2) := by
  show RUN d_X9_chance 0 [(0, .inr (.inr (.inl 96))), (1, .inl a0), (2, .inl a1), (3, .inl a2)] [] h _
  have b1 := i_rng a0
  have b2 := i_rng a1
  have b3 := i_rng a2
  have fr : FR [96, 103, 104, 105, 106, 107, 108, 109, 110, 111, 112, 113, 114, 115, 116, 117, 118, 119] h h := FR.rf _ _
  refine R_aload_n (k := 0) rfl rfl rfl ?_
  refine R_iload_n (k := 1) rfl rfl rfl ?_
  refine R_iload_n (k := 3) rfl rfl rfl ?_
  have b4 : (0 : Int) ≤ (h.1 97 0).toInt ∧ (h.1 97 0).toInt ≤ 60 := hI.1 97 0
  refine R_callV (v := .inr (.inr (.inl 96))) (As := [.inl a0, .inl a2]) (rest := []) rfl mt_9_i491 pp_X9_isSlips (by decide) rfl rfl rfl (Nat.le_of_ble_eq_true rfl) (Nat.le_of_ble_eq_true rfl) ((k_X9_isSlips h hI a0 a2).mono (fun r5 h6 p7 => ?_))
  obtain ⟨rfl, x8, rfl, q9 | q9 | q9 | q9 | q9 | q9⟩ := p7
  · show RUN d_X9_chance 6 [(0, .inr (.inr (.inl 96))), (1, .inl a0), (2, .inl a1), (3, .inl a2)] [.inl x8] h _
    refine N_if_eq (a := x8.toInt) 21 rfl rfl rfl (fun c10 => ?_) (fun c10 => ?_)
    · refine R_ldc2 (x := (-2)) rfl kt_9_496 ?_
      exact R_lret rfl rfl ⟨hI, fr, trivial, _, rfl⟩
    · exfalso; omega
  · show RUN d_X9_chance 6 [(0, .inr (.inr (.inl 96))), (1, .inl a0), (2, .inl a1), (3, .inl a2)] [.inl x8] h _
    refine N_if_eq (a := x8.toInt) 21 rfl rfl rfl (fun c11 => ?_) (fun c11 => ?_)
    · refine R_ldc2 (x := (-2)) rfl kt_9_496 ?_
      exact R_lret rfl rfl ⟨hI, fr, trivial, _, rfl⟩
    · exfalso; omega
  · show RUN d_X9_chance 6 [(0, .inr (.inr (.inl 96))), (1, .inl a0), (2, .inl a1), (3, .inl a2)] [.inl x8] h _
    refine N_if_eq (a := x8.toInt) 21 rfl rfl rfl (fun c12 => ?_) (fun c12 => ?_)
    · refine R_ldc2 (x := (-2)) rfl kt_9_496 ?_
      exact R_lret rfl rfl ⟨hI, fr, trivial, _, rfl⟩
    · exfalso; omega
  · show RUN d_X9_chance 6 [(0, .inr (.inr (.inl 96))), (1, .inl a0), (2, .inl a1), (3, .inl a2)] [.inl x8] h _
    refine N_if_eq (a := x8.toInt) 21 rfl rfl rfl (fun c13 => ?_) (fun c13 => ?_)
    · refine R_ldc2 (x := (-2)) rfl kt_9_496 ?_
      exact R_lret rfl rfl ⟨hI, fr, trivial, _, rfl⟩
    · exfalso; omega
  · show RUN d_X9_chance 6 [(0, .inr (.inr (.inl 96))), (1, .inl a0), (2, .inl a1), (3, .inl a2)] [.inl x8] h _
    refine N_if_eq (a := x8.toInt) 21 rfl rfl rfl (fun c14 => ?_) (fun c14 => ?_)
    · refine R_ldc2 (x := (-2)) rfl kt_9_496 ?_
      exact R_lret rfl rfl ⟨hI, fr, trivial, _, rfl⟩
    · exfalso; omega
  · show RUN d_X9_chance 6 [(0, .inr (.inr (.inl 96))), (1, .inl a0), (2, .inl a1), (3, .inl a2)] [.inl x8] h _
    refine N_if_eq (a := x8.toInt) 21 rfl rfl rfl (fun c15 => ?_) (fun c15 => ?_)
    · exfalso; omega
    · refine R_iload_n (k := 2) rfl rfl rfl ?_
      refine N_i2l rfl (fun w16 q17 => ?_)
      refine R_lconst 0 rfl rfl ?_
      refine R_ldc2 (x := 9) rfl kt_9_494 ?_
      have k18 : (0 : Int64).toInt = 0 := by decide
      have k19 : (9 : Int64).toInt = 9 := by decide
      refine R_callS (As := [.inr (.inl w16), .inr (.inl 0), .inr (.inl 9)]) (rest := []) rfl mt_9_i125 (by decide) pp_X9_in (by decide) rfl rfl (Nat.le_of_ble_eq_true rfl) (Nat.le_of_ble_eq_true rfl) ((k_X9_in h hI w16 (0 : Int64) (9 : Int64)).mono (fun r20 h21 p22 => ?_))
      obtain ⟨rfl, x23, rfl, q24 | q24 | q24⟩ := p22
      · show RUN d_X9_chance 18 [(0, .inr (.inr (.inl 96))), (1, .inl a0), (2, .inl a1), (3, .inl a2)] [.inl x23] h _
        refine N_if_ne (a := x23.toInt) 25 rfl rfl rfl (fun c25 => ?_) (fun c25 => ?_)
        · exfalso; omega
        · refine R_ldc2 (x := (-2)) rfl kt_9_496 ?_
          exact R_lret rfl rfl ⟨hI, fr, trivial, _, rfl⟩
      · show RUN d_X9_chance 18 [(0, .inr (.inr (.inl 96))), (1, .inl a0), (2, .inl a1), (3, .inl a2)] [.inl x23] h _
        refine N_if_ne (a := x23.toInt) 25 rfl rfl rfl (fun c26 => ?_) (fun c26 => ?_)
        · exfalso; omega
        · refine R_ldc2 (x := (-2)) rfl kt_9_496 ?_
          exact R_lret rfl rfl ⟨hI, fr, trivial, _, rfl⟩
      · show RUN d_X9_chance 18 [(0, .inr (.inr (.inl 96))), (1, .inl a0), (2, .inl a1), (3, .inl a2)] [.inl x23] h _
        refine N_if_ne (a := x23.toInt) 25 rfl rfl rfl (fun c27 => ?_) (fun c27 => ?_)
        · refine R_aload_n (k := 0) rfl rfl rfl ?_
          refine R_iload_n (k := 1) rfl rfl rfl ?_
          refine R_iload_n (k := 2) rfl rfl rfl ?_
          refine R_callV (v := .inr (.inr (.inl 96))) (As := [.inl a0, .inl a1]) (rest := []) rfl mt_9_i498 pp_X9_laySlips (by decide) rfl rfl rfl (Nat.le_of_ble_eq_true rfl) (Nat.le_of_ble_eq_true rfl) ((k_X9_laySlips h hI a0 a1 (by omega) (by omega)).mono (fun r28 h29 p30 => ?_))
          obtain ⟨hJ, fj, ⟨xq31, -⟩, rfl⟩ := p30
          have f32 := fj
          have fr := fr.trans fj (by decide)
          have hI := hJ
          have s33 : (h29.1 97 0).toInt = (h.1 97 0).toInt := by rw [(f32 97 (by decide)).1]
          show RUN d_X9_chance 31 [(0, .inr (.inr (.inl 96))), (1, .inl a0), (2, .inl a1), (3, .inl a2)] [] h29 _
          refine R_aload_n (k := 0) rfl rfl rfl ?_
          refine R_getf_l (j := 55) rfl ft_9_483 sh_96 rfl ?_
          refine N_eqL (fun w34 e35 => ?_)
          have q36 : w34.toInt = (h29.2 96 55).toInt := by rw [e35]
          refine R_aload_n (k := 0) rfl rfl rfl ?_
          refine R_getf_l (j := 54) rfl ft_9_479 sh_96 rfl ?_
          refine N_eqL (fun w37 e38 => ?_)
          have q39 : w37.toInt = (h29.2 96 54).toInt := by rw [e38]
          refine R_iload_n (k := 3) rfl rfl rfl ?_
          refine R_callS (As := [.inr (.inl w34), .inr (.inl w37), .inl a2]) (rest := []) rfl mt_9_i385 (by decide) pp_X9_part (by decide) rfl rfl (Nat.le_of_ble_eq_true rfl) (Nat.le_of_ble_eq_true rfl) ((k_X9_part h29 hI w34 w37 a2 (by omega) (by omega)).mono (fun r40 h41 p42 => ?_))
          obtain ⟨rfl, w43, rfl⟩ := p42
          show RUN d_X9_chance 43 [(0, .inr (.inr (.inl 96))), (1, .inl a0), (2, .inl a1), (3, .inl a2)] [.inr (.inl w43)] h29 _
          exact R_lret rfl rfl ⟨hI, fr, trivial, _, rfl⟩
        · exfalso; omega
abbrev q_X9_mean (h : PH) (a0 : Int32) (a1 : Int32) : Option PV → PH → Prop := fun r h' => INV h' ∧ FR [96, 103, 104, 105, 106, 107, 108, 109, 110, 111, 112, 113, 114, 115, 116, 117, 118, 119] h h' ∧ (True) ∧ ∃ z : Int64, r = some (.inr (.inl z))
set_option maxHeartbeats 4000000 in
set_option maxRecDepth 100000 in
theorem k_X9_mean (h : PH) (hI : INV h) (a0 : Int32) (a1 : Int32) : CALL d_X9_mean [.inr (.inr (.inl 96)), .inl a0, .inl a1] h (q_X9_mean h a0 a1) := by
  show RUN d_X9_mean 0 [(0, .inr (.inr (.inl 96))), (1, .inl a0), (2, .inl a1)] [] h _
  have b1 := i_rng a0
  have b2 := i_rng a1
  have fr : FR [96, 103, 104, 105, 106, 107, 108, 109, 110, 111, 112, 113, 114, 115, 116, 117, 118, 119] h h := FR.rf _ _
  refine R_aload_n (k := 0) rfl rfl rfl ?_
  refine R_iload_n (k := 1) rfl rfl rfl ?_
  refine R_iload_n (k := 2) rfl rfl rfl ?_
  have b3 : (0 : Int) ≤ (h.1 97 0).toInt ∧ (h.1 97 0).toInt ≤ 60 := hI.1 97 0
  refine R_callV (v := .inr (.inr (.inl 96))) (As := [.inl a0, .inl a1]) (rest := []) rfl mt_9_i491 pp_X9_isSlips (by decide) rfl rfl rfl (Nat.le_of_ble_eq_true rfl) (Nat.le_of_ble_eq_true rfl) ((k_X9_isSlips h hI a0 a1).mono (fun r4 h5 p6 => ?_))
  obtain ⟨rfl, x7, rfl, q8 | q8 | q8 | q8 | q8 | q8⟩ := p6
  · show RUN d_X9_mean 6 [(0, .inr (.inr (.inl 96))), (1, .inl a0), (2, .inl a1)] [.inl x7] h _
    refine N_if_ne (a := x7.toInt) 13 rfl rfl rfl (fun c9 => ?_) (fun c9 => ?_)
    · exfalso; omega
    · refine R_ldc2 (x := (-2)) rfl kt_9_496 ?_
      exact R_lret rfl rfl ⟨hI, fr, trivial, _, rfl⟩
  · show RUN d_X9_mean 6 [(0, .inr (.inr (.inl 96))), (1, .inl a0), (2, .inl a1)] [.inl x7] h _
    refine N_if_ne (a := x7.toInt) 13 rfl rfl rfl (fun c10 => ?_) (fun c10 => ?_)
    · exfalso; omega
    · refine R_ldc2 (x := (-2)) rfl kt_9_496 ?_
      exact R_lret rfl rfl ⟨hI, fr, trivial, _, rfl⟩
  · show RUN d_X9_mean 6 [(0, .inr (.inr (.inl 96))), (1, .inl a0), (2, .inl a1)] [.inl x7] h _
    refine N_if_ne (a := x7.toInt) 13 rfl rfl rfl (fun c11 => ?_) (fun c11 => ?_)
    · exfalso; omega
    · refine R_ldc2 (x := (-2)) rfl kt_9_496 ?_
      exact R_lret rfl rfl ⟨hI, fr, trivial, _, rfl⟩
  · show RUN d_X9_mean 6 [(0, .inr (.inr (.inl 96))), (1, .inl a0), (2, .inl a1)] [.inl x7] h _
    refine N_if_ne (a := x7.toInt) 13 rfl rfl rfl (fun c12 => ?_) (fun c12 => ?_)
    · exfalso; omega
    · refine R_ldc2 (x := (-2)) rfl kt_9_496 ?_
      exact R_lret rfl rfl ⟨hI, fr, trivial, _, rfl⟩
  · show RUN d_X9_mean 6 [(0, .inr (.inr (.inl 96))), (1, .inl a0), (2, .inl a1)] [.inl x7] h _
    refine N_if_ne (a := x7.toInt) 13 rfl rfl rfl (fun c13 => ?_) (fun c13 => ?_)
    · exfalso; omega
    · refine R_ldc2 (x := (-2)) rfl kt_9_496 ?_
      exact R_lret rfl rfl ⟨hI, fr, trivial, _, rfl⟩
  · show RUN d_X9_mean 6 [(0, .inr (.inr (.inl 96))), (1, .inl a0), (2, .inl a1)] [.inl x7] h _
    refine N_if_ne (a := x7.toInt) 13 rfl rfl rfl (fun c14 => ?_) (fun c14 => ?_)
    · refine R_aload_n (k := 0) rfl rfl rfl ?_
      refine R_iload_n (k := 1) rfl rfl rfl ?_
      refine R_iconst 0 rfl rfl ?_
      have k15 : (0 : Int32).toInt = 0 := by decide
      refine R_callV (v := .inr (.inr (.inl 96))) (As := [.inl a0, .inl 0]) (rest := []) rfl mt_9_i498 pp_X9_laySlips (by decide) rfl rfl rfl (Nat.le_of_ble_eq_true rfl) (Nat.le_of_ble_eq_true rfl) ((k_X9_laySlips h hI a0 (0 : Int32) (by omega) (by decide)).mono (fun r16 h17 p18 => ?_))
      obtain ⟨hJ, fj, ⟨xq19, -⟩, rfl⟩ := p18
      have f20 := fj
      have fr := fr.trans fj (by decide)
      have hI := hJ
      have s21 : (h17.1 97 0).toInt = (h.1 97 0).toInt := by rw [(f20 97 (by decide)).1]
      show RUN d_X9_mean 19 [(0, .inr (.inr (.inl 96))), (1, .inl a0), (2, .inl a1)] [] h17 _
      refine R_aload_n (k := 0) rfl rfl rfl ?_
      refine R_getf_l (j := 56) rfl ft_9_486 sh_96 rfl ?_
      refine N_eqL (fun w22 e23 => ?_)
      have q24 : w22.toInt = (h17.2 96 56).toInt := by rw [e23]
      refine R_aload_n (k := 0) rfl rfl rfl ?_
      refine R_getf_l (j := 54) rfl ft_9_479 sh_96 rfl ?_
      refine N_eqL (fun w25 e26 => ?_)
      have q27 : w25.toInt = (h17.2 96 54).toInt := by rw [e26]
      refine R_iload_n (k := 2) rfl rfl rfl ?_
      refine R_callS (As := [.inr (.inl w22), .inr (.inl w25), .inl a1]) (rest := []) rfl mt_9_i385 (by decide) pp_X9_part (by decide) rfl rfl (Nat.le_of_ble_eq_true rfl) (Nat.le_of_ble_eq_true rfl) ((k_X9_part h17 hI w22 w25 a1 (by omega) (by omega)).mono (fun r28 h29 p30 => ?_))
      obtain ⟨rfl, w31, rfl⟩ := p30
      show RUN d_X9_mean 31 [(0, .inr (.inr (.inl 96))), (1, .inl a0), (2, .inl a1)] [.inr (.inl w31)] h17 _
      exact R_lret rfl rfl ⟨hI, fr, trivial, _, rfl⟩
    · exfalso; omega
