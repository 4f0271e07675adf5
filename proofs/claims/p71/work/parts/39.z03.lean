abbrev qg_X9_number (h : PH) (a0 : Int32) (a1 : Int32) : Option PV → PH → Prop := fun r h' => INV h' ∧ FR [96] h h' ∧ ((h'.1 96 7).toInt = (h.1 96 7).toInt ∧ (h'.1 96 5).toInt = (h.1 96 5).toInt ∧ ((h.1 96 12).toInt ≤ (h'.1 96 12).toInt) ∧ ((h.1 96 8).toInt ≤ (h'.1 96 8).toInt) ∧ True) ∧ ∃ z : Int32, r = some (.inl z) ∧ (((0 ≤ z.toInt ∧ z.toInt ≤ 999)) ∧ ((h'.1 96 12).toInt = 0 → a0.toInt ≤ z.toInt ∧ z.toInt ≤ a1.toInt) ∧ (z.toInt = 0 ∨ (a0.toInt ≤ z.toInt ∧ z.toInt ≤ a1.toInt)) ∧ True)
set_option maxHeartbeats 4000000 in
set_option maxRecDepth 100000 in
theorem g_X9_number (h : PH) (hI : INV h) (a0 : Int32) (a1 : Int32) (h0a : 0 ≤ a0.toInt ∧ a0.toInt ≤ 1) (h1a : (-1) ≤ a1.toInt ∧ a1.toInt ≤ 999) : CALL d_X9_number [.inr (.inr (.inl 96)), .inl a0, .inl a1] h (qg_X9_number h a0 a1) := by
  show RUN d_X9_number 0 [(0, .inr (.inr (.inl 96))), (1, .inl a0), (2, .inl a1)] [] h _
  have fr : FR [96] h h := FR.rf _ _
  have b1 : (0 : Int) ≤ (h.1 96 12).toInt ∧ (h.1 96 12).toInt ≤ 3 := hI.1 96 12
  have b2 : (0 : Int) ≤ (h.1 96 8).toInt ∧ (h.1 96 8).toInt ≤ 500 := hI.1 96 8
  have b3 : (0 : Int) ≤ (h.1 96 7).toInt ∧ (h.1 96 7).toInt ≤ 500 := hI.1 96 7
  have b4 : (0 : Int) ≤ (h.1 96 5).toInt ∧ (h.1 96 5).toInt ≤ 500 := hI.1 96 5
  refine R_aload_n (k := 0) rfl rfl rfl ?_
  refine R_callV (v := .inr (.inr (.inl 96))) (As := []) (rest := []) rfl mt_9_i176 pp_X9_good (by decide) rfl rfl rfl (Nat.le_of_ble_eq_true rfl) (Nat.le_of_ble_eq_true rfl) ((k_X9_good h hI).mono (fun r5 h6 p7 => ?_))
  obtain ⟨rfl, x8, rfl, q9 | q9⟩ := p7
  · show RUN d_X9_number 4 [(0, .inr (.inr (.inl 96))), (1, .inl a0), (2, .inl a1)] [.inl x8] h _
    refine N_if_eq (a := x8.toInt) 20 rfl rfl rfl (fun c10 => ?_) (fun c10 => ?_)
    · refine R_aload_n (k := 0) rfl rfl rfl ?_
      refine R_callV (v := .inr (.inr (.inl 96))) (As := []) (rest := []) rfl mt_9_i176 pp_X9_good (by decide) rfl rfl rfl (Nat.le_of_ble_eq_true rfl) (Nat.le_of_ble_eq_true rfl) ((k_X9_good h hI).mono (fun r11 h12 p13 => ?_))
      obtain ⟨rfl, x14, rfl, q15 | q15⟩ := p13
      · show RUN d_X9_number 24 [(0, .inr (.inr (.inl 96))), (1, .inl a0), (2, .inl a1)] [.inl x14] h _
        refine N_if_eq (a := x14.toInt) 47 rfl rfl rfl (fun c16 => ?_) (fun c16 => ?_)
        · refine R_aload_n (k := 0) rfl rfl rfl ?_
          refine R_callV (v := .inr (.inr (.inl 96))) (As := []) (rest := []) rfl mt_9_i176 pp_X9_good (by decide) rfl rfl rfl (Nat.le_of_ble_eq_true rfl) (Nat.le_of_ble_eq_true rfl) ((k_X9_good h hI).mono (fun r17 h18 p19 => ?_))
          obtain ⟨rfl, x20, rfl, q21 | q21⟩ := p19
          · show RUN d_X9_number 51 [(0, .inr (.inr (.inl 96))), (1, .inl a0), (2, .inl a1)] [.inl x20] h _
            refine N_if_ne (a := x20.toInt) 56 rfl rfl rfl (fun c22 => ?_) (fun c22 => ?_)
            · exfalso; omega
            · refine R_iconst 0 rfl rfl ?_
              have k23 : (0 : Int32).toInt = 0 := by decide
              exact R_iret rfl rfl rfl ⟨hI, fr, ⟨by omega, by omega, by omega, by omega, trivial⟩, _, rfl, ⟨by rw [show (0 : Int32).toInt = 0 from rfl] <;> omega, by omega, by omega, trivial⟩⟩
          · exfalso; omega
        · exfalso; omega
      · exfalso; omega
    · exfalso; omega
  · show RUN d_X9_number 4 [(0, .inr (.inr (.inl 96))), (1, .inl a0), (2, .inl a1)] [.inl x8] h _
    refine N_if_eq (a := x8.toInt) 20 rfl rfl rfl (fun c24 => ?_) (fun c24 => ?_)
    · exfalso; omega
    · refine R_aload_n (k := 0) rfl rfl rfl ?_
      refine R_getf_i (j := 10) rfl ft_9_152 sh_96 rfl ?_
      refine R_iconst 2 rfl rfl ?_
      refine N_icmp_eq (a := (h.1 96 10).toInt) (b := 2) 20 rfl rfl rfl (by decide) (fun c25 => ?_) (fun c25 => ?_)
      · refine R_aload_n (k := 0) rfl rfl rfl ?_
        refine R_callV (v := .inr (.inr (.inl 96))) (As := []) (rest := []) rfl mt_9_i176 pp_X9_good (by decide) rfl rfl rfl (Nat.le_of_ble_eq_true rfl) (Nat.le_of_ble_eq_true rfl) ((k_X9_good h hI).mono (fun r26 h27 p28 => ?_))
        obtain ⟨rfl, x29, rfl, q30 | q30⟩ := p28
        · exfalso; omega
        · show RUN d_X9_number 24 [(0, .inr (.inr (.inl 96))), (1, .inl a0), (2, .inl a1)] [.inl x29] h _
          refine N_if_eq (a := x29.toInt) 47 rfl rfl rfl (fun c31 => ?_) (fun c31 => ?_)
          · exfalso; omega
          · refine R_aload_n (k := 0) rfl rfl rfl ?_
            refine R_getf_i (j := 11) rfl ft_9_163 sh_96 rfl ?_
            refine N_i2l rfl (fun w32 q33 => ?_)
            refine R_iload_n (k := 1) rfl rfl rfl ?_
            refine N_i2l rfl (fun w34 q35 => ?_)
            refine R_iload_n (k := 2) rfl rfl rfl ?_
            refine N_i2l rfl (fun w36 q37 => ?_)
            refine R_callS (As := [.inr (.inl w32), .inr (.inl w34), .inr (.inl w36)]) (rest := []) rfl mt_9_i125 (by decide) pp_X9_in (by decide) rfl rfl (Nat.le_of_ble_eq_true rfl) (Nat.le_of_ble_eq_true rfl) ((k_X9_in h hI w32 w34 w36).mono (fun r38 h39 p40 => ?_))
            obtain ⟨rfl, x41, rfl, q42 | q42 | q42⟩ := p40
            · show RUN d_X9_number 39 [(0, .inr (.inr (.inl 96))), (1, .inl a0), (2, .inl a1)] [.inl x41] h _
              refine N_if_ne (a := x41.toInt) 47 rfl rfl rfl (fun c43 => ?_) (fun c43 => ?_)
              · exfalso; omega
              · refine R_aload_n (k := 0) rfl rfl rfl ?_
                refine R_iconst 2 rfl rfl ?_
                have k44 : (2 : Int32).toInt = 2 := by decide
                refine R_callV (v := .inr (.inr (.inl 96))) (As := [.inl 2]) (rest := []) rfl mt_9_i198 pp_X9_errs (by decide) rfl rfl rfl (Nat.le_of_ble_eq_true rfl) (Nat.le_of_ble_eq_true rfl) ((g_X9_errs h hI (2 : Int32) (by decide)).mono (fun r45 h46 p47 => ?_))
                obtain ⟨hJ, fj, ⟨kp48, kp49, kp50, kp51, kp52, xq53, xq54, xq55, -⟩, rfl⟩ := p47
                have f56 := fj
                have fr := fr.trans fj (by decide)
                have hI := hJ
                have b57 : (0 : Int) ≤ (h46.1 96 12).toInt ∧ (h46.1 96 12).toInt ≤ 3 := hI.1 96 12
                show RUN d_X9_number 47 [(0, .inr (.inr (.inl 96))), (1, .inl a0), (2, .inl a1)] [] h46 _
                refine R_aload_n (k := 0) rfl rfl rfl ?_
                refine R_callV (v := .inr (.inr (.inl 96))) (As := []) (rest := []) rfl mt_9_i176 pp_X9_good (by decide) rfl rfl rfl (Nat.le_of_ble_eq_true rfl) (Nat.le_of_ble_eq_true rfl) ((k_X9_good h46 hI).mono (fun r58 h59 p60 => ?_))
                obtain ⟨rfl, x61, rfl, q62 | q62⟩ := p60
                · show RUN d_X9_number 51 [(0, .inr (.inr (.inl 96))), (1, .inl a0), (2, .inl a1)] [.inl x61] h46 _
                  refine N_if_ne (a := x61.toInt) 56 rfl rfl rfl (fun c63 => ?_) (fun c63 => ?_)
                  · exfalso; omega
                  · refine R_iconst 0 rfl rfl ?_
                    have k64 : (0 : Int32).toInt = 0 := by decide
                    exact R_iret rfl rfl rfl ⟨hI, fr, ⟨by omega, by omega, by omega, by omega, trivial⟩, _, rfl, ⟨by rw [show (0 : Int32).toInt = 0 from rfl] <;> omega, by omega, by omega, trivial⟩⟩
                · exfalso; omega
            · show RUN d_X9_number 39 [(0, .inr (.inr (.inl 96))), (1, .inl a0), (2, .inl a1)] [.inl x41] h _
              refine N_if_ne (a := x41.toInt) 47 rfl rfl rfl (fun c65 => ?_) (fun c65 => ?_)
              · exfalso; omega
              · refine R_aload_n (k := 0) rfl rfl rfl ?_
                refine R_iconst 2 rfl rfl ?_
                have k66 : (2 : Int32).toInt = 2 := by decide
                refine R_callV (v := .inr (.inr (.inl 96))) (As := [.inl 2]) (rest := []) rfl mt_9_i198 pp_X9_errs (by decide) rfl rfl rfl (Nat.le_of_ble_eq_true rfl) (Nat.le_of_ble_eq_true rfl) ((g_X9_errs h hI (2 : Int32) (by decide)).mono (fun r67 h68 p69 => ?_))
                obtain ⟨hJ, fj, ⟨kp70, kp71, kp72, kp73, kp74, xq75, xq76, xq77, -⟩, rfl⟩ := p69
                have f78 := fj
                have fr := fr.trans fj (by decide)
                have hI := hJ
                have b79 : (0 : Int) ≤ (h68.1 96 12).toInt ∧ (h68.1 96 12).toInt ≤ 3 := hI.1 96 12
                show RUN d_X9_number 47 [(0, .inr (.inr (.inl 96))), (1, .inl a0), (2, .inl a1)] [] h68 _
                refine R_aload_n (k := 0) rfl rfl rfl ?_
                refine R_callV (v := .inr (.inr (.inl 96))) (As := []) (rest := []) rfl mt_9_i176 pp_X9_good (by decide) rfl rfl rfl (Nat.le_of_ble_eq_true rfl) (Nat.le_of_ble_eq_true rfl) ((k_X9_good h68 hI).mono (fun r80 h81 p82 => ?_))
                obtain ⟨rfl, x83, rfl, q84 | q84⟩ := p82
                · show RUN d_X9_number 51 [(0, .inr (.inr (.inl 96))), (1, .inl a0), (2, .inl a1)] [.inl x83] h68 _
                  refine N_if_ne (a := x83.toInt) 56 rfl rfl rfl (fun c85 => ?_) (fun c85 => ?_)
                  · exfalso; omega
                  · refine R_iconst 0 rfl rfl ?_
                    have k86 : (0 : Int32).toInt = 0 := by decide
                    exact R_iret rfl rfl rfl ⟨hI, fr, ⟨by omega, by omega, by omega, by omega, trivial⟩, _, rfl, ⟨by rw [show (0 : Int32).toInt = 0 from rfl] <;> omega, by omega, by omega, trivial⟩⟩
                · exfalso; omega
            · show RUN d_X9_number 39 [(0, .inr (.inr (.inl 96))), (1, .inl a0), (2, .inl a1)] [.inl x41] h _
              refine N_if_ne (a := x41.toInt) 47 rfl rfl rfl (fun c87 => ?_) (fun c87 => ?_)
              · refine R_aload_n (k := 0) rfl rfl rfl ?_
                refine R_callV (v := .inr (.inr (.inl 96))) (As := []) (rest := []) rfl mt_9_i176 pp_X9_good (by decide) rfl rfl rfl (Nat.le_of_ble_eq_true rfl) (Nat.le_of_ble_eq_true rfl) ((k_X9_good h hI).mono (fun r88 h89 p90 => ?_))
                obtain ⟨rfl, x91, rfl, q92 | q92⟩ := p90
                · exfalso; omega
                · show RUN d_X9_number 51 [(0, .inr (.inr (.inl 96))), (1, .inl a0), (2, .inl a1)] [.inl x91] h _
                  refine N_if_ne (a := x91.toInt) 56 rfl rfl rfl (fun c93 => ?_) (fun c93 => ?_)
                  · refine R_aload_n (k := 0) rfl rfl rfl ?_
                    refine R_getf_i (j := 11) rfl ft_9_163 sh_96 rfl ?_
                    refine R_istore_n (k := 3) rfl [(3, .inl (h.1 96 11)), (0, .inr (.inr (.inl 96))), (1, .inl a0), (2, .inl a1)] rfl rfl (by decide) ?_
                    refine R_aload_n (k := 0) rfl rfl rfl ?_
                    refine R_callV (v := .inr (.inr (.inl 96))) (As := []) (rest := []) rfl mt_9_i192 pp_X9_advance (by decide) rfl rfl rfl (Nat.le_of_ble_eq_true rfl) (Nat.le_of_ble_eq_true rfl) ((g_X9_advance h hI).mono (fun r94 h95 p96 => ?_))
                    obtain ⟨hJ, fj, ⟨kp97, kp98, kp99, kp100, xq101, xq102, -⟩, rfl⟩ := p96
                    have f103 := fj
                    have fr := fr.trans fj (by decide)
                    have hI := hJ
                    have b104 : (0 : Int) ≤ (h95.1 96 8).toInt ∧ (h95.1 96 8).toInt ≤ 500 := hI.1 96 8
                    show RUN d_X9_number 65 [(3, .inl (h.1 96 11)), (0, .inr (.inr (.inl 96))), (1, .inl a0), (2, .inl a1)] [] h95 _
                    refine R_iload_n (k := 3) rfl rfl rfl ?_
                    exact R_iret rfl rfl rfl ⟨hI, fr, ⟨by omega, by omega, by omega, by omega, trivial⟩, _, rfl, ⟨by omega, by omega, by omega, trivial⟩⟩
                  · exfalso; omega
              · exfalso; omega
      · refine R_aload_n (k := 0) rfl rfl rfl ?_
        refine R_iconst 1 rfl rfl ?_
        have k105 : (1 : Int32).toInt = 1 := by decide
        refine R_callV (v := .inr (.inr (.inl 96))) (As := [.inl 1]) (rest := []) rfl mt_9_i198 pp_X9_errs (by decide) rfl rfl rfl (Nat.le_of_ble_eq_true rfl) (Nat.le_of_ble_eq_true rfl) ((g_X9_errs h hI (1 : Int32) (by decide)).mono (fun r106 h107 p108 => ?_))
        obtain ⟨hJ, fj, ⟨kp109, kp110, kp111, kp112, kp113, xq114, xq115, xq116, -⟩, rfl⟩ := p108
        have f117 := fj
        have fr := fr.trans fj (by decide)
        have hI := hJ
        have b118 : (0 : Int) ≤ (h107.1 96 12).toInt ∧ (h107.1 96 12).toInt ≤ 3 := hI.1 96 12
        show RUN d_X9_number 20 [(0, .inr (.inr (.inl 96))), (1, .inl a0), (2, .inl a1)] [] h107 _
        refine R_aload_n (k := 0) rfl rfl rfl ?_
        refine R_callV (v := .inr (.inr (.inl 96))) (As := []) (rest := []) rfl mt_9_i176 pp_X9_good (by decide) rfl rfl rfl (Nat.le_of_ble_eq_true rfl) (Nat.le_of_ble_eq_true rfl) ((k_X9_good h107 hI).mono (fun r119 h120 p121 => ?_))
        obtain ⟨rfl, x122, rfl, q123 | q123⟩ := p121
        · show RUN d_X9_number 24 [(0, .inr (.inr (.inl 96))), (1, .inl a0), (2, .inl a1)] [.inl x122] h107 _
          refine N_if_eq (a := x122.toInt) 47 rfl rfl rfl (fun c124 => ?_) (fun c124 => ?_)
          · refine R_aload_n (k := 0) rfl rfl rfl ?_
            refine R_callV (v := .inr (.inr (.inl 96))) (As := []) (rest := []) rfl mt_9_i176 pp_X9_good (by decide) rfl rfl rfl (Nat.le_of_ble_eq_true rfl) (Nat.le_of_ble_eq_true rfl) ((k_X9_good h107 hI).mono (fun r125 h126 p127 => ?_))
            obtain ⟨rfl, x128, rfl, q129 | q129⟩ := p127
            · show RUN d_X9_number 51 [(0, .inr (.inr (.inl 96))), (1, .inl a0), (2, .inl a1)] [.inl x128] h107 _
              refine N_if_ne (a := x128.toInt) 56 rfl rfl rfl (fun c130 => ?_) (fun c130 => ?_)
              · exfalso; omega
              · refine R_iconst 0 rfl rfl ?_
                have k131 : (0 : Int32).toInt = 0 := by decide
                exact R_iret rfl rfl rfl ⟨hI, fr, ⟨by omega, by omega, by omega, by omega, trivial⟩, _, rfl, ⟨by rw [show (0 : Int32).toInt = 0 from rfl] <;> omega, by omega, by omega, trivial⟩⟩
            · exfalso; omega
          · exfalso; omega
        · exfalso; omega
abbrev qg_X9_readPair (h : PH) (a0 : Int32) : Option PV → PH → Prop := fun r h' => INV h' ∧ FR [96, 102] h h' ∧ ((h'.1 102 0).toInt = (h.1 102 0).toInt ∧ (h'.1 102 5).toInt = (h.1 102 5).toInt ∧ (h'.1 102 9).toInt = (h.1 102 9).toInt ∧ (h'.1 102 10).toInt = (h.1 102 10).toInt ∧ (h'.1 96 7).toInt = (h.1 96 7).toInt ∧ (h'.1 96 5).toInt = (h.1 96 5).toInt ∧ ((h.1 96 12).toInt ≤ (h'.1 96 12).toInt) ∧ ((h.1 96 8).toInt ≤ (h'.1 96 8).toInt) ∧ True) ∧ r = none
set_option maxHeartbeats 4000000 in
set_option maxRecDepth 100000 in
theorem g_X9_readPair (h : PH) (hI : INV h) (a0 : Int32) (h0a : 0 ≤ a0.toInt ∧ a0.toInt ≤ 1) (p102_6 : 0 ≤ (h.1 102 6).toInt ∧ (h.1 102 6).toInt ≤ 4) : CALL d_X9_readPair [.inr (.inr (.inl 96)), .inl a0] h (qg_X9_readPair h a0) := by
  show RUN d_X9_readPair 0 [(0, .inr (.inr (.inl 96))), (1, .inl a0)] [] h _
  have fr : FR [96, 102] h h := FR.rf _ _
  have b1 : (0 : Int) ≤ (h.1 102 6).toInt ∧ (h.1 102 6).toInt ≤ 5 := hI.1 102 6
  have b2 : (0 : Int) ≤ (h.1 102 0).toInt ∧ (h.1 102 0).toInt ≤ 60 := hI.1 102 0
  have b3 : (0 : Int) ≤ (h.1 102 5).toInt ∧ (h.1 102 5).toInt ≤ 6 := hI.1 102 5
  have b4 : (0 : Int) ≤ (h.1 102 9).toInt ∧ (h.1 102 9).toInt ≤ 30 := hI.1 102 9
  have b5 : (0 : Int) ≤ (h.1 96 12).toInt ∧ (h.1 96 12).toInt ≤ 3 := hI.1 96 12
  have b6 : (0 : Int) ≤ (h.1 96 8).toInt ∧ (h.1 96 8).toInt ≤ 500 := hI.1 96 8
  have b7 : (0 : Int) ≤ (h.1 96 7).toInt ∧ (h.1 96 7).toInt ≤ 500 := hI.1 96 7
  have b8 : (0 : Int) ≤ (h.1 96 5).toInt ∧ (h.1 96 5).toInt ≤ 500 := hI.1 96 5
  refine R_bipush 23 rfl rfl ?_
  refine R_iconst 3 rfl rfl ?_
  refine R_aload_n (k := 0) rfl rfl rfl ?_
  refine R_getf_r (j := 14) rfl ft_9_31 sh_96 rfl ?_
  refine R_bipush 6 rfl rfl ?_
  refine R_iald rfl sh_102 (by decide) ?_
  show RUN d_X9_readPair 10 [(0, .inr (.inr (.inl 96))), (1, .inl a0)] [.inl (h.1 102 6), .inl 3, .inl 23] h _
  refine N_imul (a := 3) (b := (h.1 102 6).toInt) rfl (by decide) rfl (by omega) (fun x9 q10 => ?_)
  refine N_iadd (a := 23) (b := x9.toInt) rfl (by decide) rfl (by omega) (fun x11 q12 => ?_)
  refine R_istore_n (k := 2) rfl [(2, .inl x11), (0, .inr (.inr (.inl 96))), (1, .inl a0)] rfl rfl (by decide) ?_
  refine R_aload_n (k := 0) rfl rfl rfl ?_
  refine R_getf_r (j := 14) rfl ft_9_31 sh_96 rfl ?_
  refine R_iload_n (k := 2) rfl rfl rfl ?_
  refine R_aload_n (k := 0) rfl rfl rfl ?_
  refine R_iconst 0 rfl rfl ?_
  refine R_aload_n (k := 0) rfl rfl rfl ?_
  refine R_getf_r (j := 14) rfl ft_9_31 sh_96 rfl ?_
  refine R_iconst 5 rfl rfl ?_
  refine R_iald rfl sh_102 (by decide) ?_
  show RUN d_X9_readPair 26 [(2, .inl x11), (0, .inr (.inr (.inl 96))), (1, .inl a0)] [.inl (h.1 102 5), .inl 0, .inr (.inr (.inl 96)), .inl x11, .inr (.inr (.inl 102))] h _
  refine R_iconst 1 rfl rfl ?_
  refine N_isub (a := (h.1 102 5).toInt) (b := 1) rfl rfl (by decide) (by omega) (fun x13 q14 => ?_)
  have k15 : (0 : Int32).toInt = 0 := by decide
  refine R_callV (v := .inr (.inr (.inl 96))) (As := [.inl 0, .inl x13]) (rest := [.inl x11, .inr (.inr (.inl 102))]) rfl mt_9_i206 pp_X9_number (by decide) rfl rfl rfl (Nat.le_of_ble_eq_true rfl) (Nat.le_of_ble_eq_true rfl) ((g_X9_number h hI (0 : Int32) x13 (by decide) (by omega)).mono (fun r16 h17 p18 => ?_))
  obtain ⟨hJ, fj, ⟨kp19, kp20, xq21, xq22, -⟩, x25, rfl, q26, zq23, zq24, -⟩ := p18
  have f27 := fj
  have fr := fr.trans fj (by decide)
  have hI := hJ
  have s28 : (h17.1 102 6).toInt = (h.1 102 6).toInt := by rw [(f27 102 (by decide)).1]
  have s29 : (h17.1 102 0).toInt = (h.1 102 0).toInt := by rw [(f27 102 (by decide)).1]
  have s30 : (h17.1 102 5).toInt = (h.1 102 5).toInt := by rw [(f27 102 (by decide)).1]
  have s31 : (h17.1 102 9).toInt = (h.1 102 9).toInt := by rw [(f27 102 (by decide)).1]
  have s32 : (h17.1 102 10).toInt = (h.1 102 10).toInt := by rw [(f27 102 (by decide)).1]
  have b33 : (0 : Int) ≤ (h17.1 96 12).toInt ∧ (h17.1 96 12).toInt ≤ 3 := hI.1 96 12
  have b34 : (0 : Int) ≤ (h17.1 96 8).toInt ∧ (h17.1 96 8).toInt ≤ 500 := hI.1 96 8
  show RUN d_X9_readPair 31 [(2, .inl x11), (0, .inr (.inr (.inl 96))), (1, .inl a0)] [.inl x25, .inl x11, .inr (.inr (.inl 102))] h17 _
  refine K_iast (a := x11.toInt) (lo := (-2147483648)) (hi' := 2147483647) rfl sh_102 rfl ⟨by omega, by omega⟩ hI (by decide) (bnd_hq (by omega)) (i_rng _) fr (by decide) (fun h35 g36 hI fr => ?_)
  have s37 : (h35.1 102 6).toInt = (h17.1 102 6).toInt := by rw [g36, wI_at (i := 6) (nepl (x := x11) (c := 6) (by omega))]
  have s38 : (h35.1 102 0).toInt = (h17.1 102 0).toInt := by rw [g36, wI_at (i := 0) (nepl (x := x11) (c := 0) (by omega))]
  have s39 : (h35.1 102 5).toInt = (h17.1 102 5).toInt := by rw [g36, wI_at (i := 5) (nepl (x := x11) (c := 5) (by omega))]
  have s40 : (h35.1 102 9).toInt = (h17.1 102 9).toInt := by rw [g36, wI_at (i := 9) (nepl (x := x11) (c := 9) (by omega))]
  have s41 : (h35.1 102 10).toInt = (h17.1 102 10).toInt := by rw [g36, wI_at (i := 10) (nepl (x := x11) (c := 10) (by omega))]
  have s42 : (h35.1 96 7).toInt = (h17.1 96 7).toInt := by rw [g36, wI_ne _ _ _ (by decide)]
  have s43 : (h35.1 96 5).toInt = (h17.1 96 5).toInt := by rw [g36, wI_ne _ _ _ (by decide)]
  have s44 : (h35.1 96 12).toInt = (h17.1 96 12).toInt := by rw [g36, wI_ne _ _ _ (by decide)]
  have s45 : (h35.1 96 8).toInt = (h17.1 96 8).toInt := by rw [g36, wI_ne _ _ _ (by decide)]
  refine R_aload_n (k := 0) rfl rfl rfl ?_
  refine R_callV (v := .inr (.inr (.inl 96))) (As := []) (rest := []) rfl mt_9_i176 pp_X9_good (by decide) rfl rfl rfl (Nat.le_of_ble_eq_true rfl) (Nat.le_of_ble_eq_true rfl) ((k_X9_good h35 hI).mono (fun r46 h47 p48 => ?_))
  obtain ⟨rfl, x49, rfl, q50 | q50⟩ := p48
  · show RUN d_X9_readPair 36 [(2, .inl x11), (0, .inr (.inr (.inl 96))), (1, .inl a0)] [.inl x49] h35 _
    refine N_if_eq (a := x49.toInt) 65 rfl rfl rfl (fun c51 => ?_) (fun c51 => ?_)
    · refine R_aload_n (k := 0) rfl rfl rfl ?_
      refine R_getf_r (j := 14) rfl ft_9_31 sh_96 rfl ?_
      refine R_iload_n (k := 2) rfl rfl rfl ?_
      refine R_iconst 1 rfl rfl ?_
      refine N_iadd (a := x11.toInt) (b := 1) rfl rfl (by decide) (by omega) (fun x52 q53 => ?_)
      refine R_aload_n (k := 0) rfl rfl rfl ?_
      refine R_iconst 0 rfl rfl ?_
      refine R_aload_n (k := 0) rfl rfl rfl ?_
      refine R_getf_r (j := 14) rfl ft_9_31 sh_96 rfl ?_
      refine R_iconst 5 rfl rfl ?_
      refine R_iald rfl sh_102 (by decide) ?_
      show RUN d_X9_readPair 80 [(2, .inl x11), (0, .inr (.inr (.inl 96))), (1, .inl a0)] [.inl (h35.1 102 5), .inl 0, .inr (.inr (.inl 96)), .inl x52, .inr (.inr (.inl 102))] h35 _
      refine R_iconst 1 rfl rfl ?_
      refine N_isub (a := (h35.1 102 5).toInt) (b := 1) rfl rfl (by decide) (by omega) (fun x54 q55 => ?_)
      have k56 : (0 : Int32).toInt = 0 := by decide
      refine R_callV (v := .inr (.inr (.inl 96))) (As := [.inl 0, .inl x54]) (rest := [.inl x52, .inr (.inr (.inl 102))]) rfl mt_9_i206 pp_X9_number (by decide) rfl rfl rfl (Nat.le_of_ble_eq_true rfl) (Nat.le_of_ble_eq_true rfl) ((g_X9_number h35 hI (0 : Int32) x54 (by decide) (by omega)).mono (fun r57 h58 p59 => ?_))
      obtain ⟨hJ, fj, ⟨kp60, kp61, xq62, xq63, -⟩, x66, rfl, q67, zq64, zq65, -⟩ := p59
      have f68 := fj
      have fr := fr.trans fj (by decide)
      have hI := hJ
      have s69 : (h58.1 102 6).toInt = (h35.1 102 6).toInt := by rw [(f68 102 (by decide)).1]
      have s70 : (h58.1 102 0).toInt = (h35.1 102 0).toInt := by rw [(f68 102 (by decide)).1]
      have s71 : (h58.1 102 5).toInt = (h35.1 102 5).toInt := by rw [(f68 102 (by decide)).1]
      have s72 : (h58.1 102 9).toInt = (h35.1 102 9).toInt := by rw [(f68 102 (by decide)).1]
      have s73 : (h58.1 102 10).toInt = (h35.1 102 10).toInt := by rw [(f68 102 (by decide)).1]
      have b74 : (0 : Int) ≤ (h58.1 96 12).toInt ∧ (h58.1 96 12).toInt ≤ 3 := hI.1 96 12
      have b75 : (0 : Int) ≤ (h58.1 96 8).toInt ∧ (h58.1 96 8).toInt ≤ 500 := hI.1 96 8
      show RUN d_X9_readPair 85 [(2, .inl x11), (0, .inr (.inr (.inl 96))), (1, .inl a0)] [.inl x66, .inl x52, .inr (.inr (.inl 102))] h58 _
      refine K_iast (a := x52.toInt) (lo := (-2147483648)) (hi' := 2147483647) rfl sh_102 rfl ⟨by omega, by omega⟩ hI (by decide) (bnd_hq (by omega)) (i_rng _) fr (by decide) (fun h76 g77 hI fr => ?_)
      have s78 : (h76.1 102 6).toInt = (h58.1 102 6).toInt := by rw [g77, wI_at (i := 6) (nepl (x := x52) (c := 6) (by omega))]
      have s79 : (h76.1 102 0).toInt = (h58.1 102 0).toInt := by rw [g77, wI_at (i := 0) (nepl (x := x52) (c := 0) (by omega))]
      have s80 : (h76.1 102 5).toInt = (h58.1 102 5).toInt := by rw [g77, wI_at (i := 5) (nepl (x := x52) (c := 5) (by omega))]
      have s81 : (h76.1 102 9).toInt = (h58.1 102 9).toInt := by rw [g77, wI_at (i := 9) (nepl (x := x52) (c := 9) (by omega))]
      have s82 : (h76.1 102 10).toInt = (h58.1 102 10).toInt := by rw [g77, wI_at (i := 10) (nepl (x := x52) (c := 10) (by omega))]
      have s83 : (h76.1 96 7).toInt = (h58.1 96 7).toInt := by rw [g77, wI_ne _ _ _ (by decide)]
      have s84 : (h76.1 96 5).toInt = (h58.1 96 5).toInt := by rw [g77, wI_ne _ _ _ (by decide)]
      have s85 : (h76.1 96 12).toInt = (h58.1 96 12).toInt := by rw [g77, wI_ne _ _ _ (by decide)]
      have s86 : (h76.1 96 8).toInt = (h58.1 96 8).toInt := by rw [g77, wI_ne _ _ _ (by decide)]
      refine R_aload_n (k := 0) rfl rfl rfl ?_
      refine R_getf_r (j := 14) rfl ft_9_31 sh_96 rfl ?_
      refine R_iload_n (k := 2) rfl rfl rfl ?_
      refine R_iconst 2 rfl rfl ?_
      refine N_iadd (a := x11.toInt) (b := 2) rfl rfl (by decide) (by omega) (fun x87 q88 => ?_)
      refine R_iload_n (k := 1) rfl rfl rfl ?_
      refine K_iast (a := x87.toInt) (lo := (-2147483648)) (hi' := 2147483647) rfl sh_102 rfl ⟨by omega, by omega⟩ hI (by decide) (bnd_hq (by omega)) (i_rng _) fr (by decide) (fun h89 g90 hI fr => ?_)
      have s91 : (h89.1 102 6).toInt = (h76.1 102 6).toInt := by rw [g90, wI_at (i := 6) (nepl (x := x87) (c := 6) (by omega))]
      have s92 : (h89.1 102 0).toInt = (h76.1 102 0).toInt := by rw [g90, wI_at (i := 0) (nepl (x := x87) (c := 0) (by omega))]
      have s93 : (h89.1 102 5).toInt = (h76.1 102 5).toInt := by rw [g90, wI_at (i := 5) (nepl (x := x87) (c := 5) (by omega))]
      have s94 : (h89.1 102 9).toInt = (h76.1 102 9).toInt := by rw [g90, wI_at (i := 9) (nepl (x := x87) (c := 9) (by omega))]
      have s95 : (h89.1 102 10).toInt = (h76.1 102 10).toInt := by rw [g90, wI_at (i := 10) (nepl (x := x87) (c := 10) (by omega))]
      have s96 : (h89.1 96 7).toInt = (h76.1 96 7).toInt := by rw [g90, wI_ne _ _ _ (by decide)]
      have s97 : (h89.1 96 5).toInt = (h76.1 96 5).toInt := by rw [g90, wI_ne _ _ _ (by decide)]
      have s98 : (h89.1 96 12).toInt = (h76.1 96 12).toInt := by rw [g90, wI_ne _ _ _ (by decide)]
      have s99 : (h89.1 96 8).toInt = (h76.1 96 8).toInt := by rw [g90, wI_ne _ _ _ (by decide)]
      refine R_aload_n (k := 0) rfl rfl rfl ?_
      refine R_getf_r (j := 14) rfl ft_9_31 sh_96 rfl ?_
      refine R_bipush 6 rfl rfl ?_
      refine R_dup2 rfl ?_
      refine R_iald rfl sh_102 (by decide) ?_
      show RUN d_X9_readPair 103 [(2, .inl x11), (0, .inr (.inr (.inl 96))), (1, .inl a0)] [.inl (h89.1 102 6), .inl 6, .inr (.inr (.inl 102))] h89 _
      refine R_iconst 1 rfl rfl ?_
      refine N_iadd (a := (h89.1 102 6).toInt) (b := 1) rfl rfl (by decide) (by omega) (fun x100 q101 => ?_)
      refine K_iast (a := 6) (lo := 0) (hi' := 5) rfl sh_102 (by decide) (by decide) hI (by decide) rfl (by omega) fr (by decide) (fun h102 g103 hI fr => ?_)
      have s104 : (h102.1 102 0).toInt = (h89.1 102 0).toInt := by rw [g103, show (6 : Int32).toNatClampNeg = 6 from rfl, wI_at (by decide)]
      have s105 : (h102.1 102 5).toInt = (h89.1 102 5).toInt := by rw [g103, show (6 : Int32).toNatClampNeg = 6 from rfl, wI_at (by decide)]
      have s106 : (h102.1 102 9).toInt = (h89.1 102 9).toInt := by rw [g103, show (6 : Int32).toNatClampNeg = 6 from rfl, wI_at (by decide)]
      have s107 : (h102.1 102 10).toInt = (h89.1 102 10).toInt := by rw [g103, show (6 : Int32).toNatClampNeg = 6 from rfl, wI_at (by decide)]
      have s108 : (h102.1 96 7).toInt = (h89.1 96 7).toInt := by rw [g103, wI_ne _ _ _ (by decide)]
      have s109 : (h102.1 96 5).toInt = (h89.1 96 5).toInt := by rw [g103, wI_ne _ _ _ (by decide)]
      have s110 : (h102.1 96 12).toInt = (h89.1 96 12).toInt := by rw [g103, wI_ne _ _ _ (by decide)]
      have s111 : (h102.1 96 8).toInt = (h89.1 96 8).toInt := by rw [g103, wI_ne _ _ _ (by decide)]
      have s112 : (h102.1 102 6).toInt = x100.toInt := by rw [g103, show (6 : Int32).toNatClampNeg = 6 from rfl, wI_is]
      exact R_vret rfl rfl ⟨hI, fr, ⟨by omega, by omega, by omega, by omega, by omega, by omega, by omega, by omega, trivial⟩, rfl⟩
    · exfalso; omega
  · show RUN d_X9_readPair 36 [(2, .inl x11), (0, .inr (.inr (.inl 96))), (1, .inl a0)] [.inl x49] h35 _
    refine N_if_eq (a := x49.toInt) 65 rfl rfl rfl (fun c113 => ?_) (fun c113 => ?_)
    · exfalso; omega
    · refine R_aload_n (k := 0) rfl rfl rfl ?_
      refine R_getf_i (j := 10) rfl ft_9_152 sh_96 rfl ?_
      refine R_iconst 2 rfl rfl ?_
      refine N_icmp_ne (a := (h35.1 96 10).toInt) (b := 2) 65 rfl rfl rfl (by decide) (fun c114 => ?_) (fun c114 => ?_)
      · refine R_aload_n (k := 0) rfl rfl rfl ?_
        refine R_getf_r (j := 14) rfl ft_9_31 sh_96 rfl ?_
        refine R_iload_n (k := 2) rfl rfl rfl ?_
        refine R_iconst 1 rfl rfl ?_
        refine N_iadd (a := x11.toInt) (b := 1) rfl rfl (by decide) (by omega) (fun x115 q116 => ?_)
        refine R_aload_n (k := 0) rfl rfl rfl ?_
        refine R_iconst 0 rfl rfl ?_
        refine R_aload_n (k := 0) rfl rfl rfl ?_
        refine R_getf_r (j := 14) rfl ft_9_31 sh_96 rfl ?_
        refine R_iconst 5 rfl rfl ?_
        refine R_iald rfl sh_102 (by decide) ?_
        show RUN d_X9_readPair 80 [(2, .inl x11), (0, .inr (.inr (.inl 96))), (1, .inl a0)] [.inl (h35.1 102 5), .inl 0, .inr (.inr (.inl 96)), .inl x115, .inr (.inr (.inl 102))] h35 _
        refine R_iconst 1 rfl rfl ?_
        refine N_isub (a := (h35.1 102 5).toInt) (b := 1) rfl rfl (by decide) (by omega) (fun x117 q118 => ?_)
        have k119 : (0 : Int32).toInt = 0 := by decide
        refine R_callV (v := .inr (.inr (.inl 96))) (As := [.inl 0, .inl x117]) (rest := [.inl x115, .inr (.inr (.inl 102))]) rfl mt_9_i206 pp_X9_number (by decide) rfl rfl rfl (Nat.le_of_ble_eq_true rfl) (Nat.le_of_ble_eq_true rfl) ((g_X9_number h35 hI (0 : Int32) x117 (by decide) (by omega)).mono (fun r120 h121 p122 => ?_))
        obtain ⟨hJ, fj, ⟨kp123, kp124, xq125, xq126, -⟩, x129, rfl, q130, zq127, zq128, -⟩ := p122
        have f131 := fj
        have fr := fr.trans fj (by decide)
        have hI := hJ
        have s132 : (h121.1 102 6).toInt = (h35.1 102 6).toInt := by rw [(f131 102 (by decide)).1]
        have s133 : (h121.1 102 0).toInt = (h35.1 102 0).toInt := by rw [(f131 102 (by decide)).1]
        have s134 : (h121.1 102 5).toInt = (h35.1 102 5).toInt := by rw [(f131 102 (by decide)).1]
        have s135 : (h121.1 102 9).toInt = (h35.1 102 9).toInt := by rw [(f131 102 (by decide)).1]
        have s136 : (h121.1 102 10).toInt = (h35.1 102 10).toInt := by rw [(f131 102 (by decide)).1]
        have b137 : (0 : Int) ≤ (h121.1 96 12).toInt ∧ (h121.1 96 12).toInt ≤ 3 := hI.1 96 12
        have b138 : (0 : Int) ≤ (h121.1 96 8).toInt ∧ (h121.1 96 8).toInt ≤ 500 := hI.1 96 8
        show RUN d_X9_readPair 85 [(2, .inl x11), (0, .inr (.inr (.inl 96))), (1, .inl a0)] [.inl x129, .inl x115, .inr (.inr (.inl 102))] h121 _
        refine K_iast (a := x115.toInt) (lo := (-2147483648)) (hi' := 2147483647) rfl sh_102 rfl ⟨by omega, by omega⟩ hI (by decide) (bnd_hq (by omega)) (i_rng _) fr (by decide) (fun h139 g140 hI fr => ?_)
        have s141 : (h139.1 102 6).toInt = (h121.1 102 6).toInt := by rw [g140, wI_at (i := 6) (nepl (x := x115) (c := 6) (by omega))]
        have s142 : (h139.1 102 0).toInt = (h121.1 102 0).toInt := by rw [g140, wI_at (i := 0) (nepl (x := x115) (c := 0) (by omega))]
        have s143 : (h139.1 102 5).toInt = (h121.1 102 5).toInt := by rw [g140, wI_at (i := 5) (nepl (x := x115) (c := 5) (by omega))]
        have s144 : (h139.1 102 9).toInt = (h121.1 102 9).toInt := by rw [g140, wI_at (i := 9) (nepl (x := x115) (c := 9) (by omega))]
        have s145 : (h139.1 102 10).toInt = (h121.1 102 10).toInt := by rw [g140, wI_at (i := 10) (nepl (x := x115) (c := 10) (by omega))]
        have s146 : (h139.1 96 7).toInt = (h121.1 96 7).toInt := by rw [g140, wI_ne _ _ _ (by decide)]
        have s147 : (h139.1 96 5).toInt = (h121.1 96 5).toInt := by rw [g140, wI_ne _ _ _ (by decide)]
        have s148 : (h139.1 96 12).toInt = (h121.1 96 12).toInt := by rw [g140, wI_ne _ _ _ (by decide)]
        have s149 : (h139.1 96 8).toInt = (h121.1 96 8).toInt := by rw [g140, wI_ne _ _ _ (by decide)]
        refine R_aload_n (k := 0) rfl rfl rfl ?_
        refine R_getf_r (j := 14) rfl ft_9_31 sh_96 rfl ?_
        refine R_iload_n (k := 2) rfl rfl rfl ?_
        refine R_iconst 2 rfl rfl ?_
        refine N_iadd (a := x11.toInt) (b := 2) rfl rfl (by decide) (by omega) (fun x150 q151 => ?_)
        refine R_iload_n (k := 1) rfl rfl rfl ?_
        refine K_iast (a := x150.toInt) (lo := (-2147483648)) (hi' := 2147483647) rfl sh_102 rfl ⟨by omega, by omega⟩ hI (by decide) (bnd_hq (by omega)) (i_rng _) fr (by decide) (fun h152 g153 hI fr => ?_)
        have s154 : (h152.1 102 6).toInt = (h139.1 102 6).toInt := by rw [g153, wI_at (i := 6) (nepl (x := x150) (c := 6) (by omega))]
        have s155 : (h152.1 102 0).toInt = (h139.1 102 0).toInt := by rw [g153, wI_at (i := 0) (nepl (x := x150) (c := 0) (by omega))]
        have s156 : (h152.1 102 5).toInt = (h139.1 102 5).toInt := by rw [g153, wI_at (i := 5) (nepl (x := x150) (c := 5) (by omega))]
        have s157 : (h152.1 102 9).toInt = (h139.1 102 9).toInt := by rw [g153, wI_at (i := 9) (nepl (x := x150) (c := 9) (by omega))]
        have s158 : (h152.1 102 10).toInt = (h139.1 102 10).toInt := by rw [g153, wI_at (i := 10) (nepl (x := x150) (c := 10) (by omega))]
        have s159 : (h152.1 96 7).toInt = (h139.1 96 7).toInt := by rw [g153, wI_ne _ _ _ (by decide)]
        have s160 : (h152.1 96 5).toInt = (h139.1 96 5).toInt := by rw [g153, wI_ne _ _ _ (by decide)]
        have s161 : (h152.1 96 12).toInt = (h139.1 96 12).toInt := by rw [g153, wI_ne _ _ _ (by decide)]
        have s162 : (h152.1 96 8).toInt = (h139.1 96 8).toInt := by rw [g153, wI_ne _ _ _ (by decide)]
        refine R_aload_n (k := 0) rfl rfl rfl ?_
        refine R_getf_r (j := 14) rfl ft_9_31 sh_96 rfl ?_
        refine R_bipush 6 rfl rfl ?_
        refine R_dup2 rfl ?_
        refine R_iald rfl sh_102 (by decide) ?_
        show RUN d_X9_readPair 103 [(2, .inl x11), (0, .inr (.inr (.inl 96))), (1, .inl a0)] [.inl (h152.1 102 6), .inl 6, .inr (.inr (.inl 102))] h152 _
        refine R_iconst 1 rfl rfl ?_
        refine N_iadd (a := (h152.1 102 6).toInt) (b := 1) rfl rfl (by decide) (by omega) (fun x163 q164 => ?_)
        refine K_iast (a := 6) (lo := 0) (hi' := 5) rfl sh_102 (by decide) (by decide) hI (by decide) rfl (by omega) fr (by decide) (fun h165 g166 hI fr => ?_)
        have s167 : (h165.1 102 0).toInt = (h152.1 102 0).toInt := by rw [g166, show (6 : Int32).toNatClampNeg = 6 from rfl, wI_at (by decide)]
        have s168 : (h165.1 102 5).toInt = (h152.1 102 5).toInt := by rw [g166, show (6 : Int32).toNatClampNeg = 6 from rfl, wI_at (by decide)]
        have s169 : (h165.1 102 9).toInt = (h152.1 102 9).toInt := by rw [g166, show (6 : Int32).toNatClampNeg = 6 from rfl, wI_at (by decide)]
        have s170 : (h165.1 102 10).toInt = (h152.1 102 10).toInt := by rw [g166, show (6 : Int32).toNatClampNeg = 6 from rfl, wI_at (by decide)]
        have s171 : (h165.1 96 7).toInt = (h152.1 96 7).toInt := by rw [g166, wI_ne _ _ _ (by decide)]
        have s172 : (h165.1 96 5).toInt = (h152.1 96 5).toInt := by rw [g166, wI_ne _ _ _ (by decide)]
        have s173 : (h165.1 96 12).toInt = (h152.1 96 12).toInt := by rw [g166, wI_ne _ _ _ (by decide)]
        have s174 : (h165.1 96 8).toInt = (h152.1 96 8).toInt := by rw [g166, wI_ne _ _ _ (by decide)]
        have s175 : (h165.1 102 6).toInt = x163.toInt := by rw [g166, show (6 : Int32).toNatClampNeg = 6 from rfl, wI_is]
        exact R_vret rfl rfl ⟨hI, fr, ⟨by omega, by omega, by omega, by omega, by omega, by omega, by omega, by omega, trivial⟩, rfl⟩
      · refine R_aload_n (k := 0) rfl rfl rfl ?_
        refine R_getf_i (j := 11) rfl ft_9_163 sh_96 rfl ?_
        refine R_aload_n (k := 0) rfl rfl rfl ?_
        refine R_getf_r (j := 14) rfl ft_9_31 sh_96 rfl ?_
        refine R_iload_n (k := 2) rfl rfl rfl ?_
        refine R_iald rfl sh_102 ⟨by omega, by omega⟩ ?_
        refine N_any (fun x176 => ?_)
        refine N_icmp_ne (a := (h35.1 96 11).toInt) (b := x176.toInt) 65 rfl rfl rfl rfl (fun c177 => ?_) (fun c177 => ?_)
        · refine R_aload_n (k := 0) rfl rfl rfl ?_
          refine R_getf_r (j := 14) rfl ft_9_31 sh_96 rfl ?_
          refine R_iload_n (k := 2) rfl rfl rfl ?_
          refine R_iconst 1 rfl rfl ?_
          refine N_iadd (a := x11.toInt) (b := 1) rfl rfl (by decide) (by omega) (fun x178 q179 => ?_)
          refine R_aload_n (k := 0) rfl rfl rfl ?_
          refine R_iconst 0 rfl rfl ?_
          refine R_aload_n (k := 0) rfl rfl rfl ?_
          refine R_getf_r (j := 14) rfl ft_9_31 sh_96 rfl ?_
          refine R_iconst 5 rfl rfl ?_
          refine R_iald rfl sh_102 (by decide) ?_
          show RUN d_X9_readPair 80 [(2, .inl x11), (0, .inr (.inr (.inl 96))), (1, .inl a0)] [.inl (h35.1 102 5), .inl 0, .inr (.inr (.inl 96)), .inl x178, .inr (.inr (.inl 102))] h35 _
          refine R_iconst 1 rfl rfl ?_
          refine N_isub (a := (h35.1 102 5).toInt) (b := 1) rfl rfl (by decide) (by omega) (fun x180 q181 => ?_)
          have k182 : (0 : Int32).toInt = 0 := by decide
          refine R_callV (v := .inr (.inr (.inl 96))) (As := [.inl 0, .inl x180]) (rest := [.inl x178, .inr (.inr (.inl 102))]) rfl mt_9_i206 pp_X9_number (by decide) rfl rfl rfl (Nat.le_of_ble_eq_true rfl) (Nat.le_of_ble_eq_true rfl) ((g_X9_number h35 hI (0 : Int32) x180 (by decide) (by omega)).mono (fun r183 h184 p185 => ?_))
          obtain ⟨hJ, fj, ⟨kp186, kp187, xq188, xq189, -⟩, x192, rfl, q193, zq190, zq191, -⟩ := p185
          have f194 := fj
          have fr := fr.trans fj (by decide)
          have hI := hJ
          have s195 : (h184.1 102 6).toInt = (h35.1 102 6).toInt := by rw [(f194 102 (by decide)).1]
          have s196 : (h184.1 102 0).toInt = (h35.1 102 0).toInt := by rw [(f194 102 (by decide)).1]
          have s197 : (h184.1 102 5).toInt = (h35.1 102 5).toInt := by rw [(f194 102 (by decide)).1]
          have s198 : (h184.1 102 9).toInt = (h35.1 102 9).toInt := by rw [(f194 102 (by decide)).1]
          have s199 : (h184.1 102 10).toInt = (h35.1 102 10).toInt := by rw [(f194 102 (by decide)).1]
          have b200 : (0 : Int) ≤ (h184.1 96 12).toInt ∧ (h184.1 96 12).toInt ≤ 3 := hI.1 96 12
          have b201 : (0 : Int) ≤ (h184.1 96 8).toInt ∧ (h184.1 96 8).toInt ≤ 500 := hI.1 96 8
          show RUN d_X9_readPair 85 [(2, .inl x11), (0, .inr (.inr (.inl 96))), (1, .inl a0)] [.inl x192, .inl x178, .inr (.inr (.inl 102))] h184 _
          refine K_iast (a := x178.toInt) (lo := (-2147483648)) (hi' := 2147483647) rfl sh_102 rfl ⟨by omega, by omega⟩ hI (by decide) (bnd_hq (by omega)) (i_rng _) fr (by decide) (fun h202 g203 hI fr => ?_)
          have s204 : (h202.1 102 6).toInt = (h184.1 102 6).toInt := by rw [g203, wI_at (i := 6) (nepl (x := x178) (c := 6) (by omega))]
          have s205 : (h202.1 102 0).toInt = (h184.1 102 0).toInt := by rw [g203, wI_at (i := 0) (nepl (x := x178) (c := 0) (by omega))]
          have s206 : (h202.1 102 5).toInt = (h184.1 102 5).toInt := by rw [g203, wI_at (i := 5) (nepl (x := x178) (c := 5) (by omega))]
          have s207 : (h202.1 102 9).toInt = (h184.1 102 9).toInt := by rw [g203, wI_at (i := 9) (nepl (x := x178) (c := 9) (by omega))]
          have s208 : (h202.1 102 10).toInt = (h184.1 102 10).toInt := by rw [g203, wI_at (i := 10) (nepl (x := x178) (c := 10) (by omega))]
          have s209 : (h202.1 96 7).toInt = (h184.1 96 7).toInt := by rw [g203, wI_ne _ _ _ (by decide)]
          have s210 : (h202.1 96 5).toInt = (h184.1 96 5).toInt := by rw [g203, wI_ne _ _ _ (by decide)]
          have s211 : (h202.1 96 12).toInt = (h184.1 96 12).toInt := by rw [g203, wI_ne _ _ _ (by decide)]
          have s212 : (h202.1 96 8).toInt = (h184.1 96 8).toInt := by rw [g203, wI_ne _ _ _ (by decide)]
          refine R_aload_n (k := 0) rfl rfl rfl ?_
          refine R_getf_r (j := 14) rfl ft_9_31 sh_96 rfl ?_
          refine R_iload_n (k := 2) rfl rfl rfl ?_
          refine R_iconst 2 rfl rfl ?_
          refine N_iadd (a := x11.toInt) (b := 2) rfl rfl (by decide) (by omega) (fun x213 q214 => ?_)
          refine R_iload_n (k := 1) rfl rfl rfl ?_
          refine K_iast (a := x213.toInt) (lo := (-2147483648)) (hi' := 2147483647) rfl sh_102 rfl ⟨by omega, by omega⟩ hI (by decide) (bnd_hq (by omega)) (i_rng _) fr (by decide) (fun h215 g216 hI fr => ?_)
          have s217 : (h215.1 102 6).toInt = (h202.1 102 6).toInt := by rw [g216, wI_at (i := 6) (nepl (x := x213) (c := 6) (by omega))]
          have s218 : (h215.1 102 0).toInt = (h202.1 102 0).toInt := by rw [g216, wI_at (i := 0) (nepl (x := x213) (c := 0) (by omega))]
          have s219 : (h215.1 102 5).toInt = (h202.1 102 5).toInt := by rw [g216, wI_at (i := 5) (nepl (x := x213) (c := 5) (by omega))]
          have s220 : (h215.1 102 9).toInt = (h202.1 102 9).toInt := by rw [g216, wI_at (i := 9) (nepl (x := x213) (c := 9) (by omega))]
          have s221 : (h215.1 102 10).toInt = (h202.1 102 10).toInt := by rw [g216, wI_at (i := 10) (nepl (x := x213) (c := 10) (by omega))]
          have s222 : (h215.1 96 7).toInt = (h202.1 96 7).toInt := by rw [g216, wI_ne _ _ _ (by decide)]
          have s223 : (h215.1 96 5).toInt = (h202.1 96 5).toInt := by rw [g216, wI_ne _ _ _ (by decide)]
          have s224 : (h215.1 96 12).toInt = (h202.1 96 12).toInt := by rw [g216, wI_ne _ _ _ (by decide)]
          have s225 : (h215.1 96 8).toInt = (h202.1 96 8).toInt := by rw [g216, wI_ne _ _ _ (by decide)]
          refine R_aload_n (k := 0) rfl rfl rfl ?_
          refine R_getf_r (j := 14) rfl ft_9_31 sh_96 rfl ?_
          refine R_bipush 6 rfl rfl ?_
          refine R_dup2 rfl ?_
          refine R_iald rfl sh_102 (by decide) ?_
          show RUN d_X9_readPair 103 [(2, .inl x11), (0, .inr (.inr (.inl 96))), (1, .inl a0)] [.inl (h215.1 102 6), .inl 6, .inr (.inr (.inl 102))] h215 _
          refine R_iconst 1 rfl rfl ?_
          refine N_iadd (a := (h215.1 102 6).toInt) (b := 1) rfl rfl (by decide) (by omega) (fun x226 q227 => ?_)
          refine K_iast (a := 6) (lo := 0) (hi' := 5) rfl sh_102 (by decide) (by decide) hI (by decide) rfl (by omega) fr (by decide) (fun h228 g229 hI fr => ?_)
          have s230 : (h228.1 102 0).toInt = (h215.1 102 0).toInt := by rw [g229, show (6 : Int32).toNatClampNeg = 6 from rfl, wI_at (by decide)]
          have s231 : (h228.1 102 5).toInt = (h215.1 102 5).toInt := by rw [g229, show (6 : Int32).toNatClampNeg = 6 from rfl, wI_at (by decide)]
          have s232 : (h228.1 102 9).toInt = (h215.1 102 9).toInt := by rw [g229, show (6 : Int32).toNatClampNeg = 6 from rfl, wI_at (by decide)]
          have s233 : (h228.1 102 10).toInt = (h215.1 102 10).toInt := by rw [g229, show (6 : Int32).toNatClampNeg = 6 from rfl, wI_at (by decide)]
          have s234 : (h228.1 96 7).toInt = (h215.1 96 7).toInt := by rw [g229, wI_ne _ _ _ (by decide)]
          have s235 : (h228.1 96 5).toInt = (h215.1 96 5).toInt := by rw [g229, wI_ne _ _ _ (by decide)]
          have s236 : (h228.1 96 12).toInt = (h215.1 96 12).toInt := by rw [g229, wI_ne _ _ _ (by decide)]
          have s237 : (h228.1 96 8).toInt = (h215.1 96 8).toInt := by rw [g229, wI_ne _ _ _ (by decide)]
          have s238 : (h228.1 102 6).toInt = x226.toInt := by rw [g229, show (6 : Int32).toNatClampNeg = 6 from rfl, wI_is]
          exact R_vret rfl rfl ⟨hI, fr, ⟨by omega, by omega, by omega, by omega, by omega, by omega, by omega, by omega, trivial⟩, rfl⟩
        · refine R_aload_n (k := 0) rfl rfl rfl ?_
          refine R_iconst 2 rfl rfl ?_
          have k239 : (2 : Int32).toInt = 2 := by decide
          refine R_callV (v := .inr (.inr (.inl 96))) (As := [.inl 2]) (rest := []) rfl mt_9_i198 pp_X9_errs (by decide) rfl rfl rfl (Nat.le_of_ble_eq_true rfl) (Nat.le_of_ble_eq_true rfl) ((g_X9_errs h35 hI (2 : Int32) (by decide)).mono (fun r240 h241 p242 => ?_))
          obtain ⟨hJ, fj, ⟨kp243, kp244, kp245, kp246, kp247, xq248, xq249, xq250, -⟩, rfl⟩ := p242
          have f251 := fj
          have fr := fr.trans fj (by decide)
          have hI := hJ
          have s252 : (h241.1 102 6).toInt = (h35.1 102 6).toInt := by rw [(f251 102 (by decide)).1]
          have s253 : (h241.1 102 0).toInt = (h35.1 102 0).toInt := by rw [(f251 102 (by decide)).1]
          have s254 : (h241.1 102 5).toInt = (h35.1 102 5).toInt := by rw [(f251 102 (by decide)).1]
          have s255 : (h241.1 102 9).toInt = (h35.1 102 9).toInt := by rw [(f251 102 (by decide)).1]
          have s256 : (h241.1 102 10).toInt = (h35.1 102 10).toInt := by rw [(f251 102 (by decide)).1]
          have b257 : (0 : Int) ≤ (h241.1 96 12).toInt ∧ (h241.1 96 12).toInt ≤ 3 := hI.1 96 12
          show RUN d_X9_readPair 65 [(2, .inl x11), (0, .inr (.inr (.inl 96))), (1, .inl a0)] [] h241 _
          refine R_aload_n (k := 0) rfl rfl rfl ?_
          refine R_getf_r (j := 14) rfl ft_9_31 sh_96 rfl ?_
          refine R_iload_n (k := 2) rfl rfl rfl ?_
          refine R_iconst 1 rfl rfl ?_
          refine N_iadd (a := x11.toInt) (b := 1) rfl rfl (by decide) (by omega) (fun x258 q259 => ?_)
          refine R_aload_n (k := 0) rfl rfl rfl ?_
          refine R_iconst 0 rfl rfl ?_
          refine R_aload_n (k := 0) rfl rfl rfl ?_
          refine R_getf_r (j := 14) rfl ft_9_31 sh_96 rfl ?_
          refine R_iconst 5 rfl rfl ?_
          refine R_iald rfl sh_102 (by decide) ?_
          show RUN d_X9_readPair 80 [(2, .inl x11), (0, .inr (.inr (.inl 96))), (1, .inl a0)] [.inl (h241.1 102 5), .inl 0, .inr (.inr (.inl 96)), .inl x258, .inr (.inr (.inl 102))] h241 _
          refine R_iconst 1 rfl rfl ?_
          refine N_isub (a := (h241.1 102 5).toInt) (b := 1) rfl rfl (by decide) (by omega) (fun x260 q261 => ?_)
          have k262 : (0 : Int32).toInt = 0 := by decide
          refine R_callV (v := .inr (.inr (.inl 96))) (As := [.inl 0, .inl x260]) (rest := [.inl x258, .inr (.inr (.inl 102))]) rfl mt_9_i206 pp_X9_number (by decide) rfl rfl rfl (Nat.le_of_ble_eq_true rfl) (Nat.le_of_ble_eq_true rfl) ((g_X9_number h241 hI (0 : Int32) x260 (by decide) (by omega)).mono (fun r263 h264 p265 => ?_))
          obtain ⟨hJ, fj, ⟨kp266, kp267, xq268, xq269, -⟩, x272, rfl, q273, zq270, zq271, -⟩ := p265
          have f274 := fj
          have fr := fr.trans fj (by decide)
          have hI := hJ
          have s275 : (h264.1 102 6).toInt = (h241.1 102 6).toInt := by rw [(f274 102 (by decide)).1]
          have s276 : (h264.1 102 0).toInt = (h241.1 102 0).toInt := by rw [(f274 102 (by decide)).1]
          have s277 : (h264.1 102 5).toInt = (h241.1 102 5).toInt := by rw [(f274 102 (by decide)).1]
          have s278 : (h264.1 102 9).toInt = (h241.1 102 9).toInt := by rw [(f274 102 (by decide)).1]
          have s279 : (h264.1 102 10).toInt = (h241.1 102 10).toInt := by rw [(f274 102 (by decide)).1]
          have b280 : (0 : Int) ≤ (h264.1 96 12).toInt ∧ (h264.1 96 12).toInt ≤ 3 := hI.1 96 12
          have b281 : (0 : Int) ≤ (h264.1 96 8).toInt ∧ (h264.1 96 8).toInt ≤ 500 := hI.1 96 8
          show RUN d_X9_readPair 85 [(2, .inl x11), (0, .inr (.inr (.inl 96))), (1, .inl a0)] [.inl x272, .inl x258, .inr (.inr (.inl 102))] h264 _
          refine K_iast (a := x258.toInt) (lo := (-2147483648)) (hi' := 2147483647) rfl sh_102 rfl ⟨by omega, by omega⟩ hI (by decide) (bnd_hq (by omega)) (i_rng _) fr (by decide) (fun h282 g283 hI fr => ?_)
          have s284 : (h282.1 102 6).toInt = (h264.1 102 6).toInt := by rw [g283, wI_at (i := 6) (nepl (x := x258) (c := 6) (by omega))]
          have s285 : (h282.1 102 0).toInt = (h264.1 102 0).toInt := by rw [g283, wI_at (i := 0) (nepl (x := x258) (c := 0) (by omega))]
          have s286 : (h282.1 102 5).toInt = (h264.1 102 5).toInt := by rw [g283, wI_at (i := 5) (nepl (x := x258) (c := 5) (by omega))]
          have s287 : (h282.1 102 9).toInt = (h264.1 102 9).toInt := by rw [g283, wI_at (i := 9) (nepl (x := x258) (c := 9) (by omega))]
          have s288 : (h282.1 102 10).toInt = (h264.1 102 10).toInt := by rw [g283, wI_at (i := 10) (nepl (x := x258) (c := 10) (by omega))]
          have s289 : (h282.1 96 7).toInt = (h264.1 96 7).toInt := by rw [g283, wI_ne _ _ _ (by decide)]
          have s290 : (h282.1 96 5).toInt = (h264.1 96 5).toInt := by rw [g283, wI_ne _ _ _ (by decide)]
          have s291 : (h282.1 96 12).toInt = (h264.1 96 12).toInt := by rw [g283, wI_ne _ _ _ (by decide)]
          have s292 : (h282.1 96 8).toInt = (h264.1 96 8).toInt := by rw [g283, wI_ne _ _ _ (by decide)]
          refine R_aload_n (k := 0) rfl rfl rfl ?_
          refine R_getf_r (j := 14) rfl ft_9_31 sh_96 rfl ?_
          refine R_iload_n (k := 2) rfl rfl rfl ?_
          refine R_iconst 2 rfl rfl ?_
          refine N_iadd (a := x11.toInt) (b := 2) rfl rfl (by decide) (by omega) (fun x293 q294 => ?_)
          refine R_iload_n (k := 1) rfl rfl rfl ?_
          refine K_iast (a := x293.toInt) (lo := (-2147483648)) (hi' := 2147483647) rfl sh_102 rfl ⟨by omega, by omega⟩ hI (by decide) (bnd_hq (by omega)) (i_rng _) fr (by decide) (fun h295 g296 hI fr => ?_)
          have s297 : (h295.1 102 6).toInt = (h282.1 102 6).toInt := by rw [g296, wI_at (i := 6) (nepl (x := x293) (c := 6) (by omega))]
          have s298 : (h295.1 102 0).toInt = (h282.1 102 0).toInt := by rw [g296, wI_at (i := 0) (nepl (x := x293) (c := 0) (by omega))]
          have s299 : (h295.1 102 5).toInt = (h282.1 102 5).toInt := by rw [g296, wI_at (i := 5) (nepl (x := x293) (c := 5) (by omega))]
          have s300 : (h295.1 102 9).toInt = (h282.1 102 9).toInt := by rw [g296, wI_at (i := 9) (nepl (x := x293) (c := 9) (by omega))]
          have s301 : (h295.1 102 10).toInt = (h282.1 102 10).toInt := by rw [g296, wI_at (i := 10) (nepl (x := x293) (c := 10) (by omega))]
          have s302 : (h295.1 96 7).toInt = (h282.1 96 7).toInt := by rw [g296, wI_ne _ _ _ (by decide)]
          have s303 : (h295.1 96 5).toInt = (h282.1 96 5).toInt := by rw [g296, wI_ne _ _ _ (by decide)]
          have s304 : (h295.1 96 12).toInt = (h282.1 96 12).toInt := by rw [g296, wI_ne _ _ _ (by decide)]
          have s305 : (h295.1 96 8).toInt = (h282.1 96 8).toInt := by rw [g296, wI_ne _ _ _ (by decide)]
          refine R_aload_n (k := 0) rfl rfl rfl ?_
          refine R_getf_r (j := 14) rfl ft_9_31 sh_96 rfl ?_
          refine R_bipush 6 rfl rfl ?_
          refine R_dup2 rfl ?_
          refine R_iald rfl sh_102 (by decide) ?_
          show RUN d_X9_readPair 103 [(2, .inl x11), (0, .inr (.inr (.inl 96))), (1, .inl a0)] [.inl (h295.1 102 6), .inl 6, .inr (.inr (.inl 102))] h295 _
          refine R_iconst 1 rfl rfl ?_
          refine N_iadd (a := (h295.1 102 6).toInt) (b := 1) rfl rfl (by decide) (by omega) (fun x306 q307 => ?_)
          refine K_iast (a := 6) (lo := 0) (hi' := 5) rfl sh_102 (by decide) (by decide) hI (by decide) rfl (by omega) fr (by decide) (fun h308 g309 hI fr => ?_)
          have s310 : (h308.1 102 0).toInt = (h295.1 102 0).toInt := by rw [g309, show (6 : Int32).toNatClampNeg = 6 from rfl, wI_at (by decide)]
          have s311 : (h308.1 102 5).toInt = (h295.1 102 5).toInt := by rw [g309, show (6 : Int32).toNatClampNeg = 6 from rfl, wI_at (by decide)]
          have s312 : (h308.1 102 9).toInt = (h295.1 102 9).toInt := by rw [g309, show (6 : Int32).toNatClampNeg = 6 from rfl, wI_at (by decide)]
          have s313 : (h308.1 102 10).toInt = (h295.1 102 10).toInt := by rw [g309, show (6 : Int32).toNatClampNeg = 6 from rfl, wI_at (by decide)]
          have s314 : (h308.1 96 7).toInt = (h295.1 96 7).toInt := by rw [g309, wI_ne _ _ _ (by decide)]
          have s315 : (h308.1 96 5).toInt = (h295.1 96 5).toInt := by rw [g309, wI_ne _ _ _ (by decide)]
          have s316 : (h308.1 96 12).toInt = (h295.1 96 12).toInt := by rw [g309, wI_ne _ _ _ (by decide)]
          have s317 : (h308.1 96 8).toInt = (h295.1 96 8).toInt := by rw [g309, wI_ne _ _ _ (by decide)]
          have s318 : (h308.1 102 6).toInt = x306.toInt := by rw [g309, show (6 : Int32).toNatClampNeg = 6 from rfl, wI_is]
          exact R_vret rfl rfl ⟨hI, fr, ⟨by omega, by omega, by omega, by omega, by omega, by omega, by omega, by omega, trivial⟩, rfl⟩
