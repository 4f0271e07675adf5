abbrev qg_X8_share (h : PH) (a0 : Int32) (a1 : Int32) : Option PV → PH → Prop := fun r h' => INV h' ∧ FR [70, 71, 72, 73, 74] h h' ∧ (True) ∧ ∃ z : Int32, r = some (.inl z) ∧ ((True))
set_option maxHeartbeats 4000000 in
set_option maxRecDepth 100000 in
theorem g_X8_share (h : PH) (hI : INV h) (a0 : Int32) (a1 : Int32) : CALL d_X8_share [.inr (.inr (.inl 0)), .inl a0, .inl a1] h (qg_X8_share h a0 a1) := by
  show RUN d_X8_share 0 [(0, .inr (.inr (.inl 0))), (1, .inl a0), (2, .inl a1)] [] h _
  have b1 := i_rng a0
  have b2 := i_rng a1
  have fr : FR [70, 71, 72, 73, 74] h h := FR.rf _ _
  refine R_aload_n (k := 0) rfl rfl rfl ?_
  refine R_getf_r (j := 3) rfl ft_8_28 sh_0 rfl ?_
  refine R_iload_n (k := 1) rfl rfl rfl ?_
  have b3 : (0 : Int) ≤ (h.1 17 5).toInt ∧ (h.1 17 5).toInt ≤ 6 := hI.1 17 5
  refine R_callV (v := .inr (.inr (.inl 16))) (As := [.inl a0]) (rest := []) rfl mt_8_i119 pp_X1_hasHand (by decide) rfl rfl rfl (Nat.le_of_ble_eq_true rfl) (Nat.le_of_ble_eq_true rfl) ((k_X1_hasHand h hI a0).mono (fun r4 h5 p6 => ?_))
  obtain ⟨rfl, x7, rfl, q8 | q8 | q8⟩ := p6
  · show RUN d_X8_share 8 [(0, .inr (.inr (.inl 0))), (1, .inl a0), (2, .inl a1)] [.inl x7] h _
    refine N_if_eq (a := x7.toInt) 18 rfl rfl rfl (fun c9 => ?_) (fun c9 => ?_)
    · refine R_bipush (-2) rfl rfl ?_
      exact R_iret rfl rfl rfl ⟨hI, fr, trivial, _, rfl, trivial⟩
    · exfalso; omega
  · show RUN d_X8_share 8 [(0, .inr (.inr (.inl 0))), (1, .inl a0), (2, .inl a1)] [.inl x7] h _
    refine N_if_eq (a := x7.toInt) 18 rfl rfl rfl (fun c10 => ?_) (fun c10 => ?_)
    · refine R_bipush (-2) rfl rfl ?_
      exact R_iret rfl rfl rfl ⟨hI, fr, trivial, _, rfl, trivial⟩
    · exfalso; omega
  · show RUN d_X8_share 8 [(0, .inr (.inr (.inl 0))), (1, .inl a0), (2, .inl a1)] [.inl x7] h _
    refine N_if_eq (a := x7.toInt) 18 rfl rfl rfl (fun c11 => ?_) (fun c11 => ?_)
    · exfalso; omega
    · refine R_iload_n (k := 2) rfl rfl rfl ?_
      refine R_callS (As := [.inl a1]) (rest := []) rfl mt_8_i122 (by decide) pp_X8_isEither (by decide) rfl rfl (Nat.le_of_ble_eq_true rfl) (Nat.le_of_ble_eq_true rfl) ((k_X8_isEither h hI a1).mono (fun r12 h13 p14 => ?_))
      obtain ⟨rfl, x15, rfl, q16 | q16 | q16⟩ := p14
      · show RUN d_X8_share 15 [(0, .inr (.inr (.inl 0))), (1, .inl a0), (2, .inl a1)] [.inl x15] h _
        refine N_if_ne (a := x15.toInt) 21 rfl rfl rfl (fun c17 => ?_) (fun c17 => ?_)
        · refine R_aload_n (k := 0) rfl rfl rfl ?_
          refine R_getf_r (j := 3) rfl ft_8_28 sh_0 rfl ?_
          refine R_getf_r (j := 0) rfl ft_8_109 sh_16 rfl ?_
          refine R_iconst 5 rfl rfl ?_
          refine R_iald rfl sh_17 (by decide) ?_
          show RUN d_X8_share 30 [(0, .inr (.inr (.inl 0))), (1, .inl a0), (2, .inl a1)] [.inl (h.1 17 5)] h _
          refine R_istore_n (k := 3) rfl [(3, .inl (h.1 17 5)), (0, .inr (.inr (.inl 0))), (1, .inl a0), (2, .inl a1)] rfl rfl (by decide) ?_
          refine R_iconst 1 rfl rfl ?_
          refine R_iload_n (k := 1) rfl rfl rfl ?_
          refine R_ishl rfl ?_
          refine N_eq (fun x18 e19 => ?_)
          refine R_istore (k := 4) [(4, .inl x18), (3, .inl (h.1 17 5)), (0, .inr (.inr (.inl 0))), (1, .inl a0), (2, .inl a1)] rfl rfl (by decide) ?_
          refine R_lconst 0 rfl rfl ?_
          refine R_lstore (k := 5) [(5, .inr (.inl 0)), (4, .inl x18), (3, .inl (h.1 17 5)), (0, .inr (.inr (.inl 0))), (1, .inl a0), (2, .inl a1)] rfl rfl (by decide) ?_
          refine R_iconst 0 rfl rfl ?_
          refine R_istore (k := 7) [(7, .inl 0), (5, .inr (.inl 0)), (4, .inl x18), (3, .inl (h.1 17 5)), (0, .inr (.inr (.inl 0))), (1, .inl a0), (2, .inl a1)] rfl rfl (by decide) ?_
          have lp22 : ∀ (n21 : Nat) (h23 : PH) (w25 : Int64) (x26 : Int32), INV h23 → FR [70, 71, 72, 73, 74] h h23 → FR [70, 71, 72, 73, 74] h h23 → 0 ≤ x26.toInt ∧ x26.toInt ≤ 64 → (64 - x26.toInt).toNat < n21 → RUN d_X8_share 42 [(7, .inl x26), (5, .inr (.inl w25)), (4, .inl x18), (3, .inl (h.1 17 5)), (0, .inr (.inr (.inl 0))), (1, .inl a0), (2, .inl a1)] [] h23 (qg_X8_share h a0 a1) := by
            intro n21
            induction n21 with
            | zero => intro h23 w25 x26 m28 m29 m30 m31 hz; exact absurd hz (Nat.not_lt_zero _)
            | succ n21 ih27 =>
              intro h23 w25 x26 hI fr fl24 m31 hz
              have s32 : (h23.1 17 5).toInt = (h.1 17 5).toInt := by rw [(fl24 17 (by decide)).1]
              refine R_iload (k := 7) rfl rfl ?_
              refine R_aload_n (k := 0) rfl rfl rfl ?_
              refine R_getf_r (j := 3) rfl ft_8_28 sh_0 rfl ?_
              refine R_callV (v := .inr (.inr (.inl 16))) (As := []) (rest := [.inl x26]) rfl mt_8_i329 pp_X1_allHands (by decide) rfl rfl rfl (Nat.le_of_ble_eq_true rfl) (Nat.le_of_ble_eq_true rfl) ((g_X1_allHands h23 hI).mono (fun r33 h34 p35 => ?_))
              obtain ⟨rfl, x37, rfl, q38, zq36, -⟩ := p35
              show RUN d_X8_share 51 [(7, .inl x26), (5, .inr (.inl w25)), (4, .inl x18), (3, .inl (h.1 17 5)), (0, .inr (.inr (.inl 0))), (1, .inl a0), (2, .inl a1)] [.inl x37, .inl x26] h23 _
              have al39 := all63 zq36 (by omega)
              refine N_icmp_gt (a := x26.toInt) (b := x37.toInt) 121 rfl rfl rfl rfl (fun c40 => ?_) (fun c40 => ?_)
              · refine R_lload (k := 5) rfl rfl ?_
                refine R_gst rfl rfl ?_
                refine R_iload_n (k := 3) rfl rfl rfl ?_
                refine R_fact rfl ⟨by omega, by omega⟩ ?_
                refine N_bd (lo := 1) (hi := 720) (fact_bd ⟨by omega, by omega⟩) (fun x41 q42 => ?_)
                refine N_i2l rfl (fun w43 q44 => ?_)
                refine R_iload_n (k := 2) rfl rfl rfl ?_
                refine R_callS (As := [.inr (.inl w25), .inr (.inl w43), .inl a1]) (rest := []) rfl mt_8_i282 (by decide) pp_X8_part (by decide) rfl rfl (Nat.le_of_ble_eq_true rfl) (Nat.le_of_ble_eq_true rfl) ((k_X8_part h23 hI w25 w43 a1 (by omega)).mono (fun r45 h46 p47 => ?_))
                obtain ⟨rfl, w48, rfl⟩ := p47
                show RUN d_X8_share 133 [(7, .inl x26), (5, .inr (.inl w25)), (4, .inl x18), (3, .inl (h.1 17 5)), (0, .inr (.inr (.inl 0))), (1, .inl a0), (2, .inl a1)] [.inr (.inl w48)] h23 _
                refine R_l2i rfl ?_
                refine N_eq (fun x49 e50 => ?_)
                exact R_iret rfl rfl rfl ⟨hI, fr, trivial, _, rfl, trivial⟩
              · refine R_iload (k := 7) rfl rfl ?_
                refine R_iload (k := 4) rfl rfl ?_
                refine R_iand rfl ?_
                refine N_eq (fun x51 e52 => ?_)
                refine N_if_ne (a := x51.toInt) 115 rfl rfl rfl (fun c53 => ?_) (fun c53 => ?_)
                · refine N_iinc (a := x26.toInt) (c := 1) (fun w => [(7, .inl w), (5, .inr (.inl w25)), (4, .inl x18), (3, .inl (h.1 17 5)), (0, .inr (.inr (.inl 0))), (1, .inl a0), (2, .inl a1)]) rfl rfl (fun _ => rfl) (by decide) rfl (by decide) (by omega) (fun x54 q55 => ?_)
                  refine R_goto 42 rfl rfl ?_
                  exact RUN_weak (psub_cons rfl (psub_cons rfl (psub_cons rfl (psub_cons rfl (psub_cons rfl (psub_cons rfl (psub_cons rfl (psub_nil _)))))))) (ih27 h23 w25 x54 hI fr fl24 (by omega) (by omega))
                · refine R_iload (k := 7) rfl rfl ?_
                  refine R_callS (As := [.inl x26]) (rest := []) rfl mt_8_i232 (by decide) pp_J6_bitCount_0f7a4 (by decide) rfl rfl (Nat.le_of_ble_eq_true rfl) (Nat.le_of_ble_eq_true rfl) ((g_J6_bitCount_0f7a4 h23 hI x26).mono (fun r56 h57 p58 => ?_))
                  obtain ⟨rfl, x60, rfl, q61, zq59, -⟩ := p58
                  show RUN d_X8_share 67 [(7, .inl x26), (5, .inr (.inl w25)), (4, .inl x18), (3, .inl (h.1 17 5)), (0, .inr (.inr (.inl 0))), (1, .inl a0), (2, .inl a1)] [.inl x60] h23 _
                  refine R_istore (k := 8) [(8, .inl x60), (7, .inl x26), (5, .inr (.inl w25)), (4, .inl x18), (3, .inl (h.1 17 5)), (0, .inr (.inr (.inl 0))), (1, .inl a0), (2, .inl a1)] rfl rfl (by decide) ?_
                  have bl62 := bc_lt (n := (h.1 17 5)) zq59 zq36 (by omega) e19 e52 (by omega) (by omega) (by omega) (by omega) (by omega)
                  refine R_gst rfl rfl ?_
                  refine R_iload (k := 8) rfl rfl ?_
                  refine R_fact rfl ⟨by omega, by omega⟩ ?_
                  refine N_bd (lo := 1) (hi := 720) (fact_bd ⟨by omega, by omega⟩) (fun x63 q64 => ?_)
                  refine N_i2l rfl (fun w65 q66 => ?_)
                  refine R_gst rfl rfl ?_
                  refine R_iload_n (k := 3) rfl rfl rfl ?_
                  refine R_iconst 1 rfl rfl ?_
                  refine R_isub rfl ?_
                  refine N_eq (fun x67 e68 => ?_)
                  have q69 : x67.toInt = (h.1 17 5).toInt - 1 := by rw [e68]; exact i_sub rfl (by decide) (by omega)
                  refine R_iload (k := 8) rfl rfl ?_
                  refine R_isub rfl ?_
                  refine N_eq (fun x70 e71 => ?_)
                  have q72 : x70.toInt = x67.toInt - x60.toInt := by rw [e71]; exact i_sub rfl rfl (by omega)
                  refine R_fact rfl ⟨by omega, by omega⟩ ?_
                  refine N_bd (lo := 1) (hi := 720) (fact_bd ⟨by omega, by omega⟩) (fun x73 q74 => ?_)
                  refine N_i2l rfl (fun w75 q76 => ?_)
                  refine R_lmul rfl ?_
                  refine N_eqL (fun w77 e78 => ?_)
                  refine R_lstore (k := 9) [(9, .inr (.inl w77)), (8, .inl x60), (7, .inl x26), (5, .inr (.inl w25)), (4, .inl x18), (3, .inl (h.1 17 5)), (0, .inr (.inr (.inl 0))), (1, .inl a0), (2, .inl a1)] rfl rfl (by decide) ?_
                  refine R_lload (k := 5) rfl rfl ?_
                  refine R_lload (k := 9) rfl rfl ?_
                  refine R_aload_n (k := 0) rfl rfl rfl ?_
                  refine R_iload (k := 7) rfl rfl ?_
                  refine R_iload (k := 4) rfl rfl ?_
                  refine R_ior rfl ?_
                  refine N_eq (fun x79 e80 => ?_)
                  refine R_callV (v := .inr (.inr (.inl 0))) (As := [.inl x79]) (rest := [.inr (.inl w77), .inr (.inl w25)]) rfl mt_8_i332 pp_X8_waterOfSet (by decide) rfl rfl rfl (Nat.le_of_ble_eq_true rfl) (Nat.le_of_ble_eq_true rfl) ((k_X8_waterOfSet h23 hI x79).mono (fun r81 h82 p83 => ?_))
                  obtain ⟨hJ, fj, -, x84, rfl, q85⟩ := p83
                  have f86 := fj
                  have fr := fr.trans fj (by decide)
                  have hI := hJ
                  have fl24 : FR [70, 71, 72, 73, 74] h h82 := fl24.trans fj (by decide)
                  have s87 : (h82.1 17 5).toInt = (h23.1 17 5).toInt := by rw [(f86 17 (by decide)).1]
                  show RUN d_X8_share 103 [(9, .inr (.inl w77)), (8, .inl x60), (7, .inl x26), (5, .inr (.inl w25)), (4, .inl x18), (3, .inl (h.1 17 5)), (0, .inr (.inr (.inl 0))), (1, .inl a0), (2, .inl a1)] [.inl x84, .inr (.inl w77), .inr (.inl w25)] h82 _
                  refine R_aload_n (k := 0) rfl rfl rfl ?_
                  refine R_iload (k := 7) rfl rfl ?_
                  refine R_callV (v := .inr (.inr (.inl 0))) (As := [.inl x26]) (rest := [.inl x84, .inr (.inl w77), .inr (.inl w25)]) rfl mt_8_i332 pp_X8_waterOfSet (by decide) rfl rfl rfl (Nat.le_of_ble_eq_true rfl) (Nat.le_of_ble_eq_true rfl) ((k_X8_waterOfSet h82 hI x26).mono (fun r88 h89 p90 => ?_))
                  obtain ⟨hJ, fj, -, x91, rfl, q92⟩ := p90
                  have f93 := fj
                  have fr := fr.trans fj (by decide)
                  have hI := hJ
                  have fl24 : FR [70, 71, 72, 73, 74] h h89 := fl24.trans fj (by decide)
                  have s94 : (h89.1 17 5).toInt = (h82.1 17 5).toInt := by rw [(f93 17 (by decide)).1]
                  show RUN d_X8_share 109 [(9, .inr (.inl w77)), (8, .inl x60), (7, .inl x26), (5, .inr (.inl w25)), (4, .inl x18), (3, .inl (h.1 17 5)), (0, .inr (.inr (.inl 0))), (1, .inl a0), (2, .inl a1)] [.inl x91, .inl x84, .inr (.inl w77), .inr (.inl w25)] h89 _
                  have b95 := i_rng x84
                  have b96 := i_rng x91
                  refine R_isub rfl ?_
                  refine N_eq (fun x97 e98 => ?_)
                  refine N_i2l rfl (fun w99 q100 => ?_)
                  refine R_lmul rfl ?_
                  refine N_eqL (fun w101 e102 => ?_)
                  refine R_ladd rfl ?_
                  refine N_eqL (fun w103 e104 => ?_)
                  refine R_lstore (k := 5) [(5, .inr (.inl w103)), (9, .inr (.inl w77)), (8, .inl x60), (7, .inl x26), (4, .inl x18), (3, .inl (h.1 17 5)), (0, .inr (.inr (.inl 0))), (1, .inl a0), (2, .inl a1)] rfl rfl (by decide) ?_
                  refine N_iinc (a := x26.toInt) (c := 1) (fun w => [(7, .inl w), (5, .inr (.inl w103)), (9, .inr (.inl w77)), (8, .inl x60), (4, .inl x18), (3, .inl (h.1 17 5)), (0, .inr (.inr (.inl 0))), (1, .inl a0), (2, .inl a1)]) rfl rfl (fun _ => rfl) (by decide) rfl (by decide) (by omega) (fun x105 q106 => ?_)
                  refine R_goto 42 rfl rfl ?_
                  exact RUN_weak (psub_cons rfl (psub_cons rfl (psub_cons rfl (psub_cons rfl (psub_cons rfl (psub_cons rfl (psub_cons rfl (psub_nil _)))))))) (ih27 h89 w103 x105 hI fr fl24 (by omega) (by omega))
          exact lp22 _ h (0 : Int64) (0 : Int32) hI fr (FR.rf _ _) (by decide) (Nat.lt_succ_self _)
        · exfalso; omega
      · show RUN d_X8_share 15 [(0, .inr (.inr (.inl 0))), (1, .inl a0), (2, .inl a1)] [.inl x15] h _
        refine N_if_ne (a := x15.toInt) 21 rfl rfl rfl (fun c107 => ?_) (fun c107 => ?_)
        · exfalso; omega
        · refine R_bipush (-2) rfl rfl ?_
          exact R_iret rfl rfl rfl ⟨hI, fr, trivial, _, rfl, trivial⟩
      · show RUN d_X8_share 15 [(0, .inr (.inr (.inl 0))), (1, .inl a0), (2, .inl a1)] [.inl x15] h _
        refine N_if_ne (a := x15.toInt) 21 rfl rfl rfl (fun c108 => ?_) (fun c108 => ?_)
        · refine R_aload_n (k := 0) rfl rfl rfl ?_
          refine R_getf_r (j := 3) rfl ft_8_28 sh_0 rfl ?_
          refine R_getf_r (j := 0) rfl ft_8_109 sh_16 rfl ?_
          refine R_iconst 5 rfl rfl ?_
          refine R_iald rfl sh_17 (by decide) ?_
          show RUN d_X8_share 30 [(0, .inr (.inr (.inl 0))), (1, .inl a0), (2, .inl a1)] [.inl (h.1 17 5)] h _
          refine R_istore_n (k := 3) rfl [(3, .inl (h.1 17 5)), (0, .inr (.inr (.inl 0))), (1, .inl a0), (2, .inl a1)] rfl rfl (by decide) ?_
          refine R_iconst 1 rfl rfl ?_
          refine R_iload_n (k := 1) rfl rfl rfl ?_
          refine R_ishl rfl ?_
          refine N_eq (fun x109 e110 => ?_)
          refine R_istore (k := 4) [(4, .inl x109), (3, .inl (h.1 17 5)), (0, .inr (.inr (.inl 0))), (1, .inl a0), (2, .inl a1)] rfl rfl (by decide) ?_
          refine R_lconst 0 rfl rfl ?_
          refine R_lstore (k := 5) [(5, .inr (.inl 0)), (4, .inl x109), (3, .inl (h.1 17 5)), (0, .inr (.inr (.inl 0))), (1, .inl a0), (2, .inl a1)] rfl rfl (by decide) ?_
          refine R_iconst 0 rfl rfl ?_
          refine R_istore (k := 7) [(7, .inl 0), (5, .inr (.inl 0)), (4, .inl x109), (3, .inl (h.1 17 5)), (0, .inr (.inr (.inl 0))), (1, .inl a0), (2, .inl a1)] rfl rfl (by decide) ?_
          have lp113 : ∀ (n112 : Nat) (h114 : PH) (w116 : Int64) (x117 : Int32), INV h114 → FR [70, 71, 72, 73, 74] h h114 → FR [70, 71, 72, 73, 74] h h114 → 0 ≤ x117.toInt ∧ x117.toInt ≤ 64 → (64 - x117.toInt).toNat < n112 → RUN d_X8_share 42 [(7, .inl x117), (5, .inr (.inl w116)), (4, .inl x109), (3, .inl (h.1 17 5)), (0, .inr (.inr (.inl 0))), (1, .inl a0), (2, .inl a1)] [] h114 (qg_X8_share h a0 a1) := by
            intro n112
            induction n112 with
            | zero => intro h114 w116 x117 m119 m120 m121 m122 hz; exact absurd hz (Nat.not_lt_zero _)
            | succ n112 ih118 =>
              intro h114 w116 x117 hI fr fl115 m122 hz
              have s123 : (h114.1 17 5).toInt = (h.1 17 5).toInt := by rw [(fl115 17 (by decide)).1]
              refine R_iload (k := 7) rfl rfl ?_
              refine R_aload_n (k := 0) rfl rfl rfl ?_
              refine R_getf_r (j := 3) rfl ft_8_28 sh_0 rfl ?_
              refine R_callV (v := .inr (.inr (.inl 16))) (As := []) (rest := [.inl x117]) rfl mt_8_i329 pp_X1_allHands (by decide) rfl rfl rfl (Nat.le_of_ble_eq_true rfl) (Nat.le_of_ble_eq_true rfl) ((g_X1_allHands h114 hI).mono (fun r124 h125 p126 => ?_))
              obtain ⟨rfl, x128, rfl, q129, zq127, -⟩ := p126
              show RUN d_X8_share 51 [(7, .inl x117), (5, .inr (.inl w116)), (4, .inl x109), (3, .inl (h.1 17 5)), (0, .inr (.inr (.inl 0))), (1, .inl a0), (2, .inl a1)] [.inl x128, .inl x117] h114 _
              have al130 := all63 zq127 (by omega)
              refine N_icmp_gt (a := x117.toInt) (b := x128.toInt) 121 rfl rfl rfl rfl (fun c131 => ?_) (fun c131 => ?_)
              · refine R_lload (k := 5) rfl rfl ?_
                refine R_gst rfl rfl ?_
                refine R_iload_n (k := 3) rfl rfl rfl ?_
                refine R_fact rfl ⟨by omega, by omega⟩ ?_
                refine N_bd (lo := 1) (hi := 720) (fact_bd ⟨by omega, by omega⟩) (fun x132 q133 => ?_)
                refine N_i2l rfl (fun w134 q135 => ?_)
                refine R_iload_n (k := 2) rfl rfl rfl ?_
                refine R_callS (As := [.inr (.inl w116), .inr (.inl w134), .inl a1]) (rest := []) rfl mt_8_i282 (by decide) pp_X8_part (by decide) rfl rfl (Nat.le_of_ble_eq_true rfl) (Nat.le_of_ble_eq_true rfl) ((k_X8_part h114 hI w116 w134 a1 (by omega)).mono (fun r136 h137 p138 => ?_))
                obtain ⟨rfl, w139, rfl⟩ := p138
                show RUN d_X8_share 133 [(7, .inl x117), (5, .inr (.inl w116)), (4, .inl x109), (3, .inl (h.1 17 5)), (0, .inr (.inr (.inl 0))), (1, .inl a0), (2, .inl a1)] [.inr (.inl w139)] h114 _
                refine R_l2i rfl ?_
                refine N_eq (fun x140 e141 => ?_)
                exact R_iret rfl rfl rfl ⟨hI, fr, trivial, _, rfl, trivial⟩
              · refine R_iload (k := 7) rfl rfl ?_
                refine R_iload (k := 4) rfl rfl ?_
                refine R_iand rfl ?_
                refine N_eq (fun x142 e143 => ?_)
                refine N_if_ne (a := x142.toInt) 115 rfl rfl rfl (fun c144 => ?_) (fun c144 => ?_)
                · refine N_iinc (a := x117.toInt) (c := 1) (fun w => [(7, .inl w), (5, .inr (.inl w116)), (4, .inl x109), (3, .inl (h.1 17 5)), (0, .inr (.inr (.inl 0))), (1, .inl a0), (2, .inl a1)]) rfl rfl (fun _ => rfl) (by decide) rfl (by decide) (by omega) (fun x145 q146 => ?_)
                  refine R_goto 42 rfl rfl ?_
                  exact RUN_weak (psub_cons rfl (psub_cons rfl (psub_cons rfl (psub_cons rfl (psub_cons rfl (psub_cons rfl (psub_cons rfl (psub_nil _)))))))) (ih118 h114 w116 x145 hI fr fl115 (by omega) (by omega))
                · refine R_iload (k := 7) rfl rfl ?_
                  refine R_callS (As := [.inl x117]) (rest := []) rfl mt_8_i232 (by decide) pp_J6_bitCount_0f7a4 (by decide) rfl rfl (Nat.le_of_ble_eq_true rfl) (Nat.le_of_ble_eq_true rfl) ((g_J6_bitCount_0f7a4 h114 hI x117).mono (fun r147 h148 p149 => ?_))
                  obtain ⟨rfl, x151, rfl, q152, zq150, -⟩ := p149
                  show RUN d_X8_share 67 [(7, .inl x117), (5, .inr (.inl w116)), (4, .inl x109), (3, .inl (h.1 17 5)), (0, .inr (.inr (.inl 0))), (1, .inl a0), (2, .inl a1)] [.inl x151] h114 _
                  refine R_istore (k := 8) [(8, .inl x151), (7, .inl x117), (5, .inr (.inl w116)), (4, .inl x109), (3, .inl (h.1 17 5)), (0, .inr (.inr (.inl 0))), (1, .inl a0), (2, .inl a1)] rfl rfl (by decide) ?_
                  have bl153 := bc_lt (n := (h.1 17 5)) zq150 zq127 (by omega) e110 e143 (by omega) (by omega) (by omega) (by omega) (by omega)
                  refine R_gst rfl rfl ?_
                  refine R_iload (k := 8) rfl rfl ?_
                  refine R_fact rfl ⟨by omega, by omega⟩ ?_
                  refine N_bd (lo := 1) (hi := 720) (fact_bd ⟨by omega, by omega⟩) (fun x154 q155 => ?_)
                  refine N_i2l rfl (fun w156 q157 => ?_)
                  refine R_gst rfl rfl ?_
                  refine R_iload_n (k := 3) rfl rfl rfl ?_
                  refine R_iconst 1 rfl rfl ?_
                  refine R_isub rfl ?_
                  refine N_eq (fun x158 e159 => ?_)
                  have q160 : x158.toInt = (h.1 17 5).toInt - 1 := by rw [e159]; exact i_sub rfl (by decide) (by omega)
                  refine R_iload (k := 8) rfl rfl ?_
                  refine R_isub rfl ?_
                  refine N_eq (fun x161 e162 => ?_)
                  have q163 : x161.toInt = x158.toInt - x151.toInt := by rw [e162]; exact i_sub rfl rfl (by omega)
                  refine R_fact rfl ⟨by omega, by omega⟩ ?_
                  refine N_bd (lo := 1) (hi := 720) (fact_bd ⟨by omega, by omega⟩) (fun x164 q165 => ?_)
                  refine N_i2l rfl (fun w166 q167 => ?_)
                  refine R_lmul rfl ?_
                  refine N_eqL (fun w168 e169 => ?_)
                  refine R_lstore (k := 9) [(9, .inr (.inl w168)), (8, .inl x151), (7, .inl x117), (5, .inr (.inl w116)), (4, .inl x109), (3, .inl (h.1 17 5)), (0, .inr (.inr (.inl 0))), (1, .inl a0), (2, .inl a1)] rfl rfl (by decide) ?_
                  refine R_lload (k := 5) rfl rfl ?_
                  refine R_lload (k := 9) rfl rfl ?_
                  refine R_aload_n (k := 0) rfl rfl rfl ?_
                  refine R_iload (k := 7) rfl rfl ?_
                  refine R_iload (k := 4) rfl rfl ?_
                  refine R_ior rfl ?_
                  refine N_eq (fun x170 e171 => ?_)
                  refine R_callV (v := .inr (.inr (.inl 0))) (As := [.inl x170]) (rest := [.inr (.inl w168), .inr (.inl w116)]) rfl mt_8_i332 pp_X8_waterOfSet (by decide) rfl rfl rfl (Nat.le_of_ble_eq_true rfl) (Nat.le_of_ble_eq_true rfl) ((k_X8_waterOfSet h114 hI x170).mono (fun r172 h173 p174 => ?_))
                  obtain ⟨hJ, fj, -, x175, rfl, q176⟩ := p174
                  have f177 := fj
                  have fr := fr.trans fj (by decide)
                  have hI := hJ
                  have fl115 : FR [70, 71, 72, 73, 74] h h173 := fl115.trans fj (by decide)
                  have s178 : (h173.1 17 5).toInt = (h114.1 17 5).toInt := by rw [(f177 17 (by decide)).1]
                  show RUN d_X8_share 103 [(9, .inr (.inl w168)), (8, .inl x151), (7, .inl x117), (5, .inr (.inl w116)), (4, .inl x109), (3, .inl (h.1 17 5)), (0, .inr (.inr (.inl 0))), (1, .inl a0), (2, .inl a1)] [.inl x175, .inr (.inl w168), .inr (.inl w116)] h173 _
                  refine R_aload_n (k := 0) rfl rfl rfl ?_
                  refine R_iload (k := 7) rfl rfl ?_
                  refine R_callV (v := .inr (.inr (.inl 0))) (As := [.inl x117]) (rest := [.inl x175, .inr (.inl w168), .inr (.inl w116)]) rfl mt_8_i332 pp_X8_waterOfSet (by decide) rfl rfl rfl (Nat.le_of_ble_eq_true rfl) (Nat.le_of_ble_eq_true rfl) ((k_X8_waterOfSet h173 hI x117).mono (fun r179 h180 p181 => ?_))
                  obtain ⟨hJ, fj, -, x182, rfl, q183⟩ := p181
                  have f184 := fj
                  have fr := fr.trans fj (by decide)
                  have hI := hJ
                  have fl115 : FR [70, 71, 72, 73, 74] h h180 := fl115.trans fj (by decide)
                  have s185 : (h180.1 17 5).toInt = (h173.1 17 5).toInt := by rw [(f184 17 (by decide)).1]
                  show RUN d_X8_share 109 [(9, .inr (.inl w168)), (8, .inl x151), (7, .inl x117), (5, .inr (.inl w116)), (4, .inl x109), (3, .inl (h.1 17 5)), (0, .inr (.inr (.inl 0))), (1, .inl a0), (2, .inl a1)] [.inl x182, .inl x175, .inr (.inl w168), .inr (.inl w116)] h180 _
                  have b186 := i_rng x175
                  have b187 := i_rng x182
                  refine R_isub rfl ?_
                  refine N_eq (fun x188 e189 => ?_)
                  refine N_i2l rfl (fun w190 q191 => ?_)
                  refine R_lmul rfl ?_
                  refine N_eqL (fun w192 e193 => ?_)
                  refine R_ladd rfl ?_
                  refine N_eqL (fun w194 e195 => ?_)
                  refine R_lstore (k := 5) [(5, .inr (.inl w194)), (9, .inr (.inl w168)), (8, .inl x151), (7, .inl x117), (4, .inl x109), (3, .inl (h.1 17 5)), (0, .inr (.inr (.inl 0))), (1, .inl a0), (2, .inl a1)] rfl rfl (by decide) ?_
                  refine N_iinc (a := x117.toInt) (c := 1) (fun w => [(7, .inl w), (5, .inr (.inl w194)), (9, .inr (.inl w168)), (8, .inl x151), (4, .inl x109), (3, .inl (h.1 17 5)), (0, .inr (.inr (.inl 0))), (1, .inl a0), (2, .inl a1)]) rfl rfl (fun _ => rfl) (by decide) rfl (by decide) (by omega) (fun x196 q197 => ?_)
                  refine R_goto 42 rfl rfl ?_
                  exact RUN_weak (psub_cons rfl (psub_cons rfl (psub_cons rfl (psub_cons rfl (psub_cons rfl (psub_cons rfl (psub_cons rfl (psub_nil _)))))))) (ih118 h180 w194 x196 hI fr fl115 (by omega) (by omega))
          exact lp113 _ h (0 : Int64) (0 : Int32) hI fr (FR.rf _ _) (by decide) (Nat.lt_succ_self _)
        · exfalso; omega
