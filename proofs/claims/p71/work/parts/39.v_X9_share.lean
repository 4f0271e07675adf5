abbrev qg_X9_share (h : PH) (a0 : Int32) (a1 : Int32) : Option PV → PH → Prop := fun r h' => INV h' ∧ FR [96, 103, 104, 105, 106, 107, 108, 109, 110, 111, 112, 113, 114, 115, 116, 117, 118, 119, 126] h h' ∧ (True) ∧ ∃ z : Int32, r = some (.inl z) ∧ ((True))
set_option maxHeartbeats 4000000 in
set_option maxRecDepth 100000 in
theorem g_X9_share (h : PH) (hI : INV h) (a0 : Int32) (a1 : Int32) : CALL d_X9_share [.inr (.inr (.inl 96)), .inl a0, .inl a1] h (qg_X9_share h a0 a1) := by
  show RUN d_X9_share 0 [(0, .inr (.inr (.inl 96))), (1, .inl a0), (2, .inl a1)] [] h _
  have b1 := i_rng a0
  have b2 := i_rng a1
  have fr : FR [96, 103, 104, 105, 106, 107, 108, 109, 110, 111, 112, 113, 114, 115, 116, 117, 118, 119, 126] h h := FR.rf _ _
  refine R_aload_n (k := 0) rfl rfl rfl ?_
  refine R_iload_n (k := 1) rfl rfl rfl ?_
  have b3 : (0 : Int) ≤ (h.1 97 5).toInt ∧ (h.1 97 5).toInt ≤ 6 := hI.1 97 5
  have b4 : (0 : Int) ≤ (h.1 97 0).toInt ∧ (h.1 97 0).toInt ≤ 60 := hI.1 97 0
  have e5 : 0 < (h.1 97 5).toInt → 1 ≤ (h.1 97 0).toInt := hI.2.2.2.2.2.1.2.2
  refine R_callV (v := .inr (.inr (.inl 96))) (As := [.inl a0]) (rest := []) rfl mt_9_i314 pp_X9_isHand (by decide) rfl rfl rfl (Nat.le_of_ble_eq_true rfl) (Nat.le_of_ble_eq_true rfl) ((k_X9_isHand h hI a0).mono (fun r6 h7 p8 => ?_))
  obtain ⟨rfl, x9, rfl, q10 | q10 | q10⟩ := p8
  · show RUN d_X9_share 5 [(0, .inr (.inr (.inl 96))), (1, .inl a0), (2, .inl a1)] [.inl x9] h _
    refine N_if_eq (a := x9.toInt) 18 rfl rfl rfl (fun c11 => ?_) (fun c11 => ?_)
    · refine R_bipush (-2) rfl rfl ?_
      exact R_iret rfl rfl rfl ⟨hI, fr, trivial, _, rfl, trivial⟩
    · exfalso; omega
  · show RUN d_X9_share 5 [(0, .inr (.inr (.inl 96))), (1, .inl a0), (2, .inl a1)] [.inl x9] h _
    refine N_if_eq (a := x9.toInt) 18 rfl rfl rfl (fun c12 => ?_) (fun c12 => ?_)
    · refine R_bipush (-2) rfl rfl ?_
      exact R_iret rfl rfl rfl ⟨hI, fr, trivial, _, rfl, trivial⟩
    · exfalso; omega
  · show RUN d_X9_share 5 [(0, .inr (.inr (.inl 96))), (1, .inl a0), (2, .inl a1)] [.inl x9] h _
    refine N_if_eq (a := x9.toInt) 18 rfl rfl rfl (fun c13 => ?_) (fun c13 => ?_)
    · exfalso; omega
    · refine R_iload_n (k := 2) rfl rfl rfl ?_
      refine N_i2l rfl (fun w14 q15 => ?_)
      refine R_lconst 0 rfl rfl ?_
      refine R_lconst 1 rfl rfl ?_
      have k16 : (0 : Int64).toInt = 0 := by decide
      have k17 : (1 : Int64).toInt = 1 := by decide
      refine R_callS (As := [.inr (.inl w14), .inr (.inl 0), .inr (.inl 1)]) (rest := []) rfl mt_9_i125 (by decide) pp_X9_in (by decide) rfl rfl (Nat.le_of_ble_eq_true rfl) (Nat.le_of_ble_eq_true rfl) ((k_X9_in h hI w14 (0 : Int64) (1 : Int64)).mono (fun r18 h19 p20 => ?_))
      obtain ⟨rfl, x21, rfl, q22 | q22 | q22⟩ := p20
      · show RUN d_X9_share 15 [(0, .inr (.inr (.inl 96))), (1, .inl a0), (2, .inl a1)] [.inl x21] h _
        refine N_if_ne (a := x21.toInt) 21 rfl rfl rfl (fun c23 => ?_) (fun c23 => ?_)
        · exfalso; omega
        · refine R_bipush (-2) rfl rfl ?_
          exact R_iret rfl rfl rfl ⟨hI, fr, trivial, _, rfl, trivial⟩
      · show RUN d_X9_share 15 [(0, .inr (.inr (.inl 96))), (1, .inl a0), (2, .inl a1)] [.inl x21] h _
        refine N_if_ne (a := x21.toInt) 21 rfl rfl rfl (fun c24 => ?_) (fun c24 => ?_)
        · exfalso; omega
        · refine R_bipush (-2) rfl rfl ?_
          exact R_iret rfl rfl rfl ⟨hI, fr, trivial, _, rfl, trivial⟩
      · show RUN d_X9_share 15 [(0, .inr (.inr (.inl 96))), (1, .inl a0), (2, .inl a1)] [.inl x21] h _
        refine N_if_ne (a := x21.toInt) 21 rfl rfl rfl (fun c25 => ?_) (fun c25 => ?_)
        · refine R_aload_n (k := 0) rfl rfl rfl ?_
          refine R_callV (v := .inr (.inr (.inl 96))) (As := []) (rest := []) rfl mt_9_i298 pp_X9_asItIs (by decide) rfl rfl rfl (Nat.le_of_ble_eq_true rfl) (Nat.le_of_ble_eq_true rfl) ((g_X9_asItIs h hI).mono (fun r26 h27 p28 => ?_))
          obtain ⟨hJ, fj, ⟨kp29, xq30, xq31, xq32, -⟩, rfl⟩ := p28
          have f33 := fj
          have fr := fr.trans fj (by decide)
          have hI := hJ
          have s34 : (h27.1 97 5).toInt = (h.1 97 5).toInt := by rw [(f33 97 (by decide)).1]
          have s35 : (h27.1 97 0).toInt = (h.1 97 0).toInt := by rw [(f33 97 (by decide)).1]
          have b36 : (0 : Int) ≤ (h27.1 97 1).toInt ∧ (h27.1 97 1).toInt ≤ 8 := hI.1 97 1
          have b37 : (0 : Int) ≤ (h27.1 96 18).toInt ∧ (h27.1 96 18).toInt ≤ 6 := hI.1 96 18
          show RUN d_X9_share 25 [(0, .inr (.inr (.inl 96))), (1, .inl a0), (2, .inl a1)] [] h27 _
          refine R_aload_n (k := 0) rfl rfl rfl ?_
          refine R_callV (v := .inr (.inr (.inl 96))) (As := []) (rest := []) rfl mt_9_i133 pp_X9_hands (by decide) rfl rfl rfl (Nat.le_of_ble_eq_true rfl) (Nat.le_of_ble_eq_true rfl) ((k_X9_hands h27 hI).mono (fun r38 h39 p40 => ?_))
          obtain ⟨rfl, x41, rfl, q42⟩ := p40
          show RUN d_X9_share 29 [(0, .inr (.inr (.inl 96))), (1, .inl a0), (2, .inl a1)] [.inl x41] h27 _
          refine R_istore_n (k := 3) rfl [(3, .inl x41), (0, .inr (.inr (.inl 96))), (1, .inl a0), (2, .inl a1)] rfl rfl (by decide) ?_
          refine R_iconst 0 rfl rfl ?_
          refine R_istore (k := 4) [(4, .inl 0), (3, .inl x41), (0, .inr (.inr (.inl 96))), (1, .inl a0), (2, .inl a1)] rfl rfl (by decide) ?_
          have lp44 : ∀ (n43 : Nat) (h45 : PH) (x47 : Int32), INV h45 → FR [96, 103, 104, 105, 106, 107, 108, 109, 110, 111, 112, 113, 114, 115, 116, 117, 118, 119, 126] h h45 → FR [96, 105, 107, 108, 109, 110, 111, 112, 113, 114, 115, 116, 117, 118, 119, 126] h27 h45 → 0 ≤ x47.toInt ∧ x47.toInt ≤ 64 → (64 - x47.toInt).toNat < n43 → RUN d_X9_share 33 [(4, .inl x47), (3, .inl x41), (0, .inr (.inr (.inl 96))), (1, .inl a0), (2, .inl a1)] [] h45 (qg_X9_share h a0 a1) := by
            intro n43
            induction n43 with
            | zero => intro h45 x47 m49 m50 m51 m52 hz; exact absurd hz (Nat.not_lt_zero _)
            | succ n43 ih48 =>
              intro h45 x47 hI fr fl46 m52 hz
              have s53 : (h45.1 97 5).toInt = (h27.1 97 5).toInt := by rw [(fl46 97 (by decide)).1]
              have s54 : (h45.1 97 0).toInt = (h27.1 97 0).toInt := by rw [(fl46 97 (by decide)).1]
              have s55 : (h45.1 97 1).toInt = (h27.1 97 1).toInt := by rw [(fl46 97 (by decide)).1]
              refine R_iload (k := 4) rfl rfl ?_
              refine R_aload_n (k := 0) rfl rfl rfl ?_
              refine R_callV (v := .inr (.inr (.inl 96))) (As := []) (rest := [.inl x47]) rfl mt_9_i460 pp_X9_allHands (by decide) rfl rfl rfl (Nat.le_of_ble_eq_true rfl) (Nat.le_of_ble_eq_true rfl) ((k_X9_allHands h45 hI).mono (fun r56 h57 p58 => ?_))
              obtain ⟨rfl, x59, rfl, q60⟩ := p58
              show RUN d_X9_share 39 [(4, .inl x47), (3, .inl x41), (0, .inr (.inr (.inl 96))), (1, .inl a0), (2, .inl a1)] [.inl x59, .inl x47] h45 _
              refine N_icmp_gt (a := x47.toInt) (b := x59.toInt) 61 rfl rfl rfl rfl (fun c61 => ?_) (fun c61 => ?_)
              · refine R_lconst 0 rfl rfl ?_
                refine R_lstore (k := 4) [(4, .inr (.inl 0)), (3, .inl x41), (0, .inr (.inr (.inl 96))), (1, .inl a0), (2, .inl a1)] rfl rfl (by decide) ?_
                refine R_iconst 0 rfl rfl ?_
                refine R_istore (k := 6) [(6, .inl 0), (4, .inr (.inl 0)), (3, .inl x41), (0, .inr (.inr (.inl 96))), (1, .inl a0), (2, .inl a1)] rfl rfl (by decide) ?_
                have lp63 : ∀ (n62 : Nat) (w64 : Int64) (x65 : Int32), 0 ≤ x65.toInt ∧ x65.toInt ≤ 64 → (64 - x65.toInt).toNat < n62 → RUN d_X9_share 67 [(6, .inl x65), (4, .inr (.inl w64)), (3, .inl x41), (0, .inr (.inr (.inl 96))), (1, .inl a0), (2, .inl a1)] [] h45 (qg_X9_share h a0 a1) := by
                  intro n62
                  induction n62 with
                  | zero => intro w64 x65 m67 hz; exact absurd hz (Nat.not_lt_zero _)
                  | succ n62 ih66 =>
                    intro w64 x65 m67 hz
                    refine R_iload (k := 6) rfl rfl ?_
                    refine R_aload_n (k := 0) rfl rfl rfl ?_
                    refine R_callV (v := .inr (.inr (.inl 96))) (As := []) (rest := [.inl x65]) rfl mt_9_i460 pp_X9_allHands (by decide) rfl rfl rfl (Nat.le_of_ble_eq_true rfl) (Nat.le_of_ble_eq_true rfl) ((k_X9_allHands h45 hI).mono (fun r68 h69 p70 => ?_))
                    obtain ⟨rfl, x71, rfl, q72⟩ := p70
                    show RUN d_X9_share 73 [(6, .inl x65), (4, .inr (.inl w64)), (3, .inl x41), (0, .inr (.inr (.inl 96))), (1, .inl a0), (2, .inl a1)] [.inl x71, .inl x65] h45 _
                    refine N_icmp_gt (a := x65.toInt) (b := x71.toInt) 140 rfl rfl rfl rfl (fun c73 => ?_) (fun c73 => ?_)
                    · refine R_lload (k := 4) rfl rfl ?_
                      refine R_iload_n (k := 3) rfl rfl rfl ?_
                      refine R_callS (As := [.inl x41]) (rest := [.inr (.inl w64)]) rfl mt_9_i469 (by decide) pp_X9_factorial (by decide) rfl rfl (Nat.le_of_ble_eq_true rfl) (Nat.le_of_ble_eq_true rfl) ((g_X9_factorial h45 hI x41 (by omega)).mono (fun r74 h75 p76 => ?_))
                      obtain ⟨rfl, x77, rfl, q78⟩ := p76
                      show RUN d_X9_share 146 [(6, .inl x65), (4, .inr (.inl w64)), (3, .inl x41), (0, .inr (.inr (.inl 96))), (1, .inl a0), (2, .inl a1)] [.inl x77, .inr (.inl w64)] h45 _
                      refine N_i2l rfl (fun w79 q80 => ?_)
                      refine R_iload_n (k := 2) rfl rfl rfl ?_
                      refine R_callS (As := [.inr (.inl w64), .inr (.inl w79), .inl a1]) (rest := []) rfl mt_9_i385 (by decide) pp_X9_part (by decide) rfl rfl (Nat.le_of_ble_eq_true rfl) (Nat.le_of_ble_eq_true rfl) ((k_X9_part h45 hI w64 w79 a1 (by omega) (by omega)).mono (fun r81 h82 p83 => ?_))
                      obtain ⟨rfl, w84, rfl⟩ := p83
                      show RUN d_X9_share 151 [(6, .inl x65), (4, .inr (.inl w64)), (3, .inl x41), (0, .inr (.inr (.inl 96))), (1, .inl a0), (2, .inl a1)] [.inr (.inl w84)] h45 _
                      refine R_l2i rfl ?_
                      refine N_eq (fun x85 e86 => ?_)
                      exact R_iret rfl rfl rfl ⟨hI, fr, trivial, _, rfl, trivial⟩
                    · refine R_iload (k := 6) rfl rfl ?_
                      refine R_iload_n (k := 1) rfl rfl rfl ?_
                      refine R_callS (As := [.inl x65, .inl a0]) (rest := []) rfl mt_9_i292 (by decide) pp_X9_bit (by decide) rfl rfl (Nat.le_of_ble_eq_true rfl) (Nat.le_of_ble_eq_true rfl) ((g_X9_bit h45 hI x65 a0 (by omega)).mono (fun r87 h88 p89 => ?_))
                      obtain ⟨rfl, x92, rfl, q93, zq90, zq91, -⟩ := p89
                      show RUN d_X9_share 82 [(6, .inl x65), (4, .inr (.inl w64)), (3, .inl x41), (0, .inr (.inr (.inl 96))), (1, .inl a0), (2, .inl a1)] [.inl x92] h45 _
                      refine N_if_ne (a := x92.toInt) 134 rfl rfl rfl (fun c94 => ?_) (fun c94 => ?_)
                      · refine N_iinc (a := x65.toInt) (c := 1) (fun w => [(6, .inl w), (4, .inr (.inl w64)), (3, .inl x41), (0, .inr (.inr (.inl 96))), (1, .inl a0), (2, .inl a1)]) rfl rfl (fun _ => rfl) (by decide) rfl (by decide) (by omega) (fun x95 q96 => ?_)
                        refine R_goto 67 rfl rfl ?_
                        exact RUN_weak (psub_cons rfl (psub_cons rfl (psub_cons rfl (psub_cons rfl (psub_cons rfl (psub_cons rfl (psub_nil _))))))) (ih66 w64 x95 (by omega) (by omega))
                      · refine R_lload (k := 4) rfl rfl ?_
                        refine R_iload (k := 6) rfl rfl ?_
                        refine R_callS (As := [.inl x65]) (rest := [.inr (.inl w64)]) rfl mt_9_i336 (by decide) pp_X9_bits (by decide) rfl rfl (Nat.le_of_ble_eq_true rfl) (Nat.le_of_ble_eq_true rfl) ((g_X9_bits h45 hI x65).mono (fun r97 h98 p99 => ?_))
                        obtain ⟨rfl, x100, rfl, q101⟩ := p99
                        show RUN d_X9_share 92 [(6, .inl x65), (4, .inr (.inl w64)), (3, .inl x41), (0, .inr (.inr (.inl 96))), (1, .inl a0), (2, .inl a1)] [.inl x100, .inr (.inl w64)] h45 _
                        refine R_callS (As := [.inl x100]) (rest := [.inr (.inl w64)]) rfl mt_9_i469 (by decide) pp_X9_factorial (by decide) rfl rfl (Nat.le_of_ble_eq_true rfl) (Nat.le_of_ble_eq_true rfl) ((g_X9_factorial h45 hI x100 (by omega)).mono (fun r102 h103 p104 => ?_))
                        obtain ⟨rfl, x105, rfl, q106⟩ := p104
                        show RUN d_X9_share 95 [(6, .inl x65), (4, .inr (.inl w64)), (3, .inl x41), (0, .inr (.inr (.inl 96))), (1, .inl a0), (2, .inl a1)] [.inl x105, .inr (.inl w64)] h45 _
                        refine N_i2l rfl (fun w107 q108 => ?_)
                        refine R_iload_n (k := 3) rfl rfl rfl ?_
                        refine R_iconst 1 rfl rfl ?_
                        refine R_isub rfl ?_
                        refine N_eq (fun x109 e110 => ?_)
                        have q111 : x109.toInt = x41.toInt - 1 := by rw [e110]; exact i_sub rfl (by decide) (by omega)
                        refine R_iload (k := 6) rfl rfl ?_
                        refine R_callS (As := [.inl x65]) (rest := [.inl x109, .inr (.inl w107), .inr (.inl w64)]) rfl mt_9_i336 (by decide) pp_X9_bits (by decide) rfl rfl (Nat.le_of_ble_eq_true rfl) (Nat.le_of_ble_eq_true rfl) ((g_X9_bits h45 hI x65).mono (fun r112 h113 p114 => ?_))
                        obtain ⟨rfl, x115, rfl, q116⟩ := p114
                        show RUN d_X9_share 104 [(6, .inl x65), (4, .inr (.inl w64)), (3, .inl x41), (0, .inr (.inr (.inl 96))), (1, .inl a0), (2, .inl a1)] [.inl x115, .inl x109, .inr (.inl w107), .inr (.inl w64)] h45 _
                        refine R_isub rfl ?_
                        refine N_eq (fun x117 e118 => ?_)
                        have q119 : x117.toInt = x109.toInt - x115.toInt := by rw [e118]; exact i_sub rfl rfl (by omega)
                        refine R_callS (As := [.inl x117]) (rest := [.inr (.inl w107), .inr (.inl w64)]) rfl mt_9_i469 (by decide) pp_X9_factorial (by decide) rfl rfl (Nat.le_of_ble_eq_true rfl) (Nat.le_of_ble_eq_true rfl) ((g_X9_factorial h45 hI x117 (by omega)).mono (fun r120 h121 p122 => ?_))
                        obtain ⟨rfl, x123, rfl, q124⟩ := p122
                        show RUN d_X9_share 108 [(6, .inl x65), (4, .inr (.inl w64)), (3, .inl x41), (0, .inr (.inr (.inl 96))), (1, .inl a0), (2, .inl a1)] [.inl x123, .inr (.inl w107), .inr (.inl w64)] h45 _
                        refine N_i2l rfl (fun w125 q126 => ?_)
                        refine R_lmul rfl ?_
                        refine N_eqL (fun w127 e128 => ?_)
                        refine R_aload_n (k := 0) rfl rfl rfl ?_
                        refine R_getf_r (j := 53) rfl ft_9_104 sh_96 rfl ?_
                        refine R_iload (k := 6) rfl rfl ?_
                        refine R_iconst 1 rfl rfl ?_
                        refine R_iload_n (k := 1) rfl rfl rfl ?_
                        refine R_ishl rfl ?_
                        refine N_eq (fun x129 e130 => ?_)
                        refine R_ior rfl ?_
                        refine N_eq (fun x132 e133 => ?_)
                        have ob134 := or63 e130 e133 (by omega) (by omega)
                        refine R_iald rfl sh_126 ⟨by omega, by omega⟩ ?_
                        refine N_eq (fun x135 e136 => ?_)
                        refine R_aload_n (k := 0) rfl rfl rfl ?_
                        refine R_getf_r (j := 53) rfl ft_9_104 sh_96 rfl ?_
                        refine R_iload (k := 6) rfl rfl ?_
                        refine R_iald rfl sh_126 ⟨by omega, by omega⟩ ?_
                        refine N_eq (fun x137 e138 => ?_)
                        have b139 := i_rng x135
                        have b140 := i_rng x137
                        refine R_isub rfl ?_
                        refine N_eq (fun x141 e142 => ?_)
                        refine N_i2l rfl (fun w143 q144 => ?_)
                        refine R_lmul rfl ?_
                        refine N_eqL (fun w145 e146 => ?_)
                        refine R_ladd rfl ?_
                        refine N_eqL (fun w147 e148 => ?_)
                        refine R_lstore (k := 4) [(4, .inr (.inl w147)), (6, .inl x65), (3, .inl x41), (0, .inr (.inr (.inl 96))), (1, .inl a0), (2, .inl a1)] rfl rfl (by decide) ?_
                        refine N_iinc (a := x65.toInt) (c := 1) (fun w => [(6, .inl w), (4, .inr (.inl w147)), (3, .inl x41), (0, .inr (.inr (.inl 96))), (1, .inl a0), (2, .inl a1)]) rfl rfl (fun _ => rfl) (by decide) rfl (by decide) (by omega) (fun x149 q150 => ?_)
                        refine R_goto 67 rfl rfl ?_
                        exact RUN_weak (psub_cons rfl (psub_cons rfl (psub_cons rfl (psub_cons rfl (psub_cons rfl (psub_cons rfl (psub_nil _))))))) (ih66 w147 x149 (by omega) (by omega))
                exact lp63 _ (0 : Int64) (0 : Int32) (by decide) (Nat.lt_succ_self _)
              · refine R_aload_n (k := 0) rfl rfl rfl ?_
                refine R_getf_r (j := 53) rfl ft_9_104 sh_96 rfl ?_
                refine R_iload (k := 4) rfl rfl ?_
                refine R_aload_n (k := 0) rfl rfl rfl ?_
                refine R_iload (k := 4) rfl rfl ?_
                refine R_callV (v := .inr (.inr (.inl 96))) (As := [.inl x47]) (rest := [.inl x47, .inr (.inr (.inl 126))]) rfl mt_9_i466 pp_X9_bringsOf (by decide) rfl rfl rfl (Nat.le_of_ble_eq_true rfl) (Nat.le_of_ble_eq_true rfl) ((k_X9_bringsOf h45 hI x47 (by omega)).mono (fun r151 h152 p153 => ?_))
                obtain ⟨hJ, fj, -, x154, rfl, q155⟩ := p153
                have f156 := fj
                have fr := fr.trans fj (by decide)
                have hI := hJ
                have fl46 : FR [96, 105, 107, 108, 109, 110, 111, 112, 113, 114, 115, 116, 117, 118, 119, 126] h27 h152 := fl46.trans fj (by decide)
                have s157 : (h152.1 97 5).toInt = (h45.1 97 5).toInt := by rw [(f156 97 (by decide)).1]
                have s158 : (h152.1 97 0).toInt = (h45.1 97 0).toInt := by rw [(f156 97 (by decide)).1]
                have s159 : (h152.1 97 1).toInt = (h45.1 97 1).toInt := by rw [(f156 97 (by decide)).1]
                show RUN d_X9_share 54 [(4, .inl x47), (3, .inl x41), (0, .inr (.inr (.inl 96))), (1, .inl a0), (2, .inl a1)] [.inl x154, .inl x47, .inr (.inr (.inl 126))] h152 _
                refine K_iast (a := x47.toInt) (lo := (-2147483648)) (hi' := 2147483647) rfl sh_126 rfl ⟨by omega, by omega⟩ hI (by decide) rfl (i_rng _) fr (by decide) (fun h160 g161 hI fr => ?_)
                have fl46 : FR [96, 105, 107, 108, 109, 110, 111, 112, 113, 114, 115, 116, 117, 118, 119, 126] h27 h160 := by rw [g161]; exact FR_wI _ _ fl46 (by decide)
                have s162 : (h160.1 97 5).toInt = (h152.1 97 5).toInt := by rw [g161, wI_ne _ _ _ (by decide)]
                have s163 : (h160.1 97 0).toInt = (h152.1 97 0).toInt := by rw [g161, wI_ne _ _ _ (by decide)]
                have s164 : (h160.1 97 1).toInt = (h152.1 97 1).toInt := by rw [g161, wI_ne _ _ _ (by decide)]
                refine N_iinc (a := x47.toInt) (c := 1) (fun w => [(4, .inl w), (3, .inl x41), (0, .inr (.inr (.inl 96))), (1, .inl a0), (2, .inl a1)]) rfl rfl (fun _ => rfl) (by decide) rfl (by decide) (by omega) (fun x165 q166 => ?_)
                refine R_goto 33 rfl rfl ?_
                exact RUN_weak (psub_cons rfl (psub_cons rfl (psub_cons rfl (psub_cons rfl (psub_cons rfl (psub_nil _)))))) (ih48 h160 x165 hI fr fl46 (by omega) (by omega))
          exact lp44 _ h27 (0 : Int32) hI fr (FR.rf _ _) (by decide) (Nat.lt_succ_self _)
        · exfalso; omega
