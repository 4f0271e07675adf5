abbrev qg_X9_readNext (h : PH)  : Option PV → PH → Prop := fun r h' => INV h' ∧ FR [96, 102] h h' ∧ ((h'.1 102 0).toInt = (h.1 102 0).toInt ∧ (h'.1 102 9).toInt = (h.1 102 9).toInt ∧ (h'.1 102 10).toInt = (h.1 102 10).toInt ∧ (h'.1 96 7).toInt = (h.1 96 7).toInt ∧ (h'.1 96 5).toInt = (h.1 96 5).toInt ∧ ((h.1 96 12).toInt ≤ (h'.1 96 12).toInt) ∧ ((h.1 96 8).toInt ≤ (h'.1 96 8).toInt) ∧ True) ∧ r = none
set_option maxHeartbeats 4000000 in
set_option maxRecDepth 100000 in
theorem g_X9_readNext (h : PH) (hI : INV h)  : CALL d_X9_readNext [.inr (.inr (.inl 96))] h (qg_X9_readNext h) := by
  show RUN d_X9_readNext 0 [(0, .inr (.inr (.inl 96)))] [] h _
  have fr : FR [96, 102] h h := FR.rf _ _
  have b1 : (0 : Int) ≤ (h.1 96 12).toInt ∧ (h.1 96 12).toInt ≤ 3 := hI.1 96 12
  have b2 : (0 : Int) ≤ (h.1 96 8).toInt ∧ (h.1 96 8).toInt ≤ 500 := hI.1 96 8
  have b3 : (0 : Int) ≤ (h.1 102 0).toInt ∧ (h.1 102 0).toInt ≤ 60 := hI.1 102 0
  have b4 : (0 : Int) ≤ (h.1 102 5).toInt ∧ (h.1 102 5).toInt ≤ 6 := hI.1 102 5
  have b5 : (0 : Int) ≤ (h.1 102 6).toInt ∧ (h.1 102 6).toInt ≤ 5 := hI.1 102 6
  have b6 : (0 : Int) ≤ (h.1 102 9).toInt ∧ (h.1 102 9).toInt ≤ 30 := hI.1 102 9
  have b7 : (0 : Int) ≤ (h.1 96 7).toInt ∧ (h.1 96 7).toInt ≤ 500 := hI.1 96 7
  have b8 : (0 : Int) ≤ (h.1 96 5).toInt ∧ (h.1 96 5).toInt ≤ 500 := hI.1 96 5
  refine R_aload_n (k := 0) rfl rfl rfl ?_
  refine R_ldc_s (i := 9) rfl kt_9_225 ?_
  refine R_callV (v := .inr (.inr (.inl 96))) (As := [.inr (.inr (.inr 10))]) (rest := []) rfl mt_9_i188 pp_X9_is (by decide) rfl rfl rfl (Nat.le_of_ble_eq_true rfl) (Nat.le_of_ble_eq_true rfl) ((CALL_ans (g_X9_is h hI)).mono (fun r9 h10 p11 => ?_))
  obtain ⟨⟨rfl, x12, rfl, q13⟩, za14⟩ := p11
  have za14 := za14 _ rfl
  show RUN d_X9_readNext 6 [(0, .inr (.inr (.inl 96)))] [.inl x12] h _
  refine N_if_ne (a := x12.toInt) 18 rfl rfl rfl (fun c15 => ?_) (fun c15 => ?_)
  · refine R_iconst 1 rfl rfl ?_
    refine R_goto 23 rfl rfl ?_
    refine R_istore_n (k := 1) rfl [(1, .inl 1), (0, .inr (.inr (.inl 96)))] rfl rfl (by decide) ?_
    refine R_iload_n (k := 1) rfl rfl rfl ?_
    refine N_if_ne (a := 1) 51 rfl rfl (by decide) (fun c16 => ?_) (fun c16 => ?_)
    · refine R_aload_n (k := 0) rfl rfl rfl ?_
      refine R_ldc_s (i := 6) rfl kt_9_229 ?_
      refine R_callV (v := .inr (.inr (.inl 96))) (As := [.inr (.inr (.inr 7))]) (rest := []) rfl mt_9_i188 pp_X9_is (by decide) rfl rfl rfl (Nat.le_of_ble_eq_true rfl) (Nat.le_of_ble_eq_true rfl) ((CALL_ans (g_X9_is_1 h hI)).mono (fun r17 h18 p19 => ?_))
      obtain ⟨⟨rfl, x20, rfl, q21⟩, za22⟩ := p19
      have za22 := za22 _ rfl
      show RUN d_X9_readNext 57 [(1, .inl 1), (0, .inr (.inr (.inl 96)))] [.inl x20] h _
      refine N_if_eq (a := x20.toInt) 71 rfl rfl rfl (fun c23 => ?_) (fun c23 => ?_)
      · refine R_iload_n (k := 1) rfl rfl rfl ?_
        refine N_if_eq (a := 1) 91 rfl rfl (by decide) (fun c24 => ?_) (fun c24 => ?_)
        · exfalso; omega
        · refine R_aload_n (k := 0) rfl rfl rfl ?_
          refine R_getf_r (j := 14) rfl ft_9_31 sh_96 rfl ?_
          refine R_bipush 6 rfl rfl ?_
          refine R_iald rfl sh_102 (by decide) ?_
          show RUN d_X9_readNext 82 [(1, .inl 1), (0, .inr (.inr (.inl 96)))] [.inl (h.1 102 6)] h _
          refine R_iconst 5 rfl rfl ?_
          refine N_icmp_ne (a := (h.1 102 6).toInt) (b := 5) 91 rfl rfl rfl (by decide) (fun c25 => ?_) (fun c25 => ?_)
          · refine R_aload_n (k := 0) rfl rfl rfl ?_
            refine R_callV (v := .inr (.inr (.inl 96))) (As := []) (rest := []) rfl mt_9_i176 pp_X9_good (by decide) rfl rfl rfl (Nat.le_of_ble_eq_true rfl) (Nat.le_of_ble_eq_true rfl) ((k_X9_good h hI).mono (fun r26 h27 p28 => ?_))
            obtain ⟨rfl, x29, rfl, q30 | q30⟩ := p28
            · show RUN d_X9_readNext 95 [(1, .inl 1), (0, .inr (.inr (.inl 96)))] [.inl x29] h _
              refine N_if_ne (a := x29.toInt) 99 rfl rfl rfl (fun c31 => ?_) (fun c31 => ?_)
              · exfalso; omega
              · exact R_vret rfl rfl ⟨hI, fr, ⟨by omega, by omega, by omega, by omega, by omega, by omega, by omega, trivial⟩, rfl⟩
            · show RUN d_X9_readNext 95 [(1, .inl 1), (0, .inr (.inr (.inl 96)))] [.inl x29] h _
              refine N_if_ne (a := x29.toInt) 99 rfl rfl rfl (fun c32 => ?_) (fun c32 => ?_)
              · refine R_aload_n (k := 0) rfl rfl rfl ?_
                refine R_ldc_s (i := 6) rfl kt_9_229 ?_
                refine R_callV (v := .inr (.inr (.inl 96))) (As := [.inr (.inr (.inr 7))]) (rest := []) rfl mt_9_i195 pp_X9_takes (by decide) rfl rfl rfl (Nat.le_of_ble_eq_true rfl) (Nat.le_of_ble_eq_true rfl) ((g_X9_takes h hI).mono (fun r33 h34 p35 => ?_))
                obtain ⟨hJ, fj, ⟨kp36, kp37, kp38, kp39, xq40, xq41, -⟩, x44, rfl, q45, zq42, zq43, -⟩ := p35
                have f46 := fj
                have fr := fr.trans fj (by decide)
                have hI := hJ
                have s47 : (h34.1 102 0).toInt = (h.1 102 0).toInt := by rw [(f46 102 (by decide)).1]
                have s48 : (h34.1 102 5).toInt = (h.1 102 5).toInt := by rw [(f46 102 (by decide)).1]
                have s49 : (h34.1 102 6).toInt = (h.1 102 6).toInt := by rw [(f46 102 (by decide)).1]
                have s50 : (h34.1 102 9).toInt = (h.1 102 9).toInt := by rw [(f46 102 (by decide)).1]
                have s51 : (h34.1 102 10).toInt = (h.1 102 10).toInt := by rw [(f46 102 (by decide)).1]
                have b52 : (0 : Int) ≤ (h34.1 96 8).toInt ∧ (h34.1 96 8).toInt ≤ 500 := hI.1 96 8
                show RUN d_X9_readNext 105 [(1, .inl 1), (0, .inr (.inr (.inl 96)))] [.inl x44] h34 _
                have tq53 : x44.toInt = x20.toInt := by rw [zq42, ← za22]
                refine N_if_eq (a := x44.toInt) 165 rfl rfl rfl (fun c54 => ?_) (fun c54 => ?_)
                · refine R_aload_n (k := 0) rfl rfl rfl ?_
                  refine R_ldc_s (i := 9) rfl kt_9_225 ?_
                  refine R_callV (v := .inr (.inr (.inl 96))) (As := [.inr (.inr (.inr 10))]) (rest := []) rfl mt_9_i195 pp_X9_takes (by decide) rfl rfl rfl (Nat.le_of_ble_eq_true rfl) (Nat.le_of_ble_eq_true rfl) ((g_X9_takes_1 h34 hI).mono (fun r55 h56 p57 => ?_))
                  obtain ⟨hJ, fj, ⟨kp58, kp59, kp60, kp61, xq62, xq63, -⟩, x66, rfl, q67, zq64, zq65, -⟩ := p57
                  have f68 := fj
                  have fr := fr.trans fj (by decide)
                  have hI := hJ
                  have s69 : (h56.1 102 0).toInt = (h34.1 102 0).toInt := by rw [(f68 102 (by decide)).1]
                  have s70 : (h56.1 102 5).toInt = (h34.1 102 5).toInt := by rw [(f68 102 (by decide)).1]
                  have s71 : (h56.1 102 6).toInt = (h34.1 102 6).toInt := by rw [(f68 102 (by decide)).1]
                  have s72 : (h56.1 102 9).toInt = (h34.1 102 9).toInt := by rw [(f68 102 (by decide)).1]
                  have s73 : (h56.1 102 10).toInt = (h34.1 102 10).toInt := by rw [(f68 102 (by decide)).1]
                  have b74 : (0 : Int) ≤ (h56.1 96 8).toInt ∧ (h56.1 96 8).toInt ≤ 500 := hI.1 96 8
                  show RUN d_X9_readNext 171 [(1, .inl 1), (0, .inr (.inr (.inl 96)))] [.inl x66] h56 _
                  have tq75 : x66.toInt = x12.toInt := by rw [zq64, zq43 (by omega), ← za14]
                  refine N_if_eq (a := x66.toInt) 182 rfl rfl rfl (fun c76 => ?_) (fun c76 => ?_)
                  · exfalso; omega
                  · refine R_aload_n (k := 0) rfl rfl rfl ?_
                    refine R_iconst 1 rfl rfl ?_
                    have k77 : (1 : Int32).toInt = 1 := by decide
                    refine R_callV (v := .inr (.inr (.inl 96))) (As := [.inl 1]) (rest := []) rfl mt_9_i237 pp_X9_readPair (by decide) rfl rfl rfl (Nat.le_of_ble_eq_true rfl) (Nat.le_of_ble_eq_true rfl) ((g_X9_readPair h56 hI (1 : Int32) (by decide) (by omega)).mono (fun r78 h79 p80 => ?_))
                    obtain ⟨hJ, fj, ⟨kp81, kp82, kp83, kp84, kp85, kp86, xq87, xq88, -⟩, rfl⟩ := p80
                    have f89 := fj
                    have fr := fr.trans fj (by decide)
                    have hI := hJ
                    have b90 : (0 : Int) ≤ (h79.1 96 12).toInt ∧ (h79.1 96 12).toInt ≤ 3 := hI.1 96 12
                    have b91 : (0 : Int) ≤ (h79.1 96 8).toInt ∧ (h79.1 96 8).toInt ≤ 500 := hI.1 96 8
                    have b92 : (0 : Int) ≤ (h79.1 102 6).toInt ∧ (h79.1 102 6).toInt ≤ 5 := hI.1 102 6
                    show RUN d_X9_readNext 179 [(1, .inl 1), (0, .inr (.inr (.inl 96)))] [] h79 _
                    refine R_goto 236 rfl rfl ?_
                    exact R_vret rfl rfl ⟨hI, fr, ⟨by omega, by omega, by omega, by omega, by omega, by omega, by omega, trivial⟩, rfl⟩
                · exfalso; omega
              · exfalso; omega
          · refine R_aload_n (k := 0) rfl rfl rfl ?_
            refine R_iconst 3 rfl rfl ?_
            have k93 : (3 : Int32).toInt = 3 := by decide
            refine R_callV (v := .inr (.inr (.inl 96))) (As := [.inl 3]) (rest := []) rfl mt_9_i198 pp_X9_errs (by decide) rfl rfl rfl (Nat.le_of_ble_eq_true rfl) (Nat.le_of_ble_eq_true rfl) ((g_X9_errs h hI (3 : Int32) (by decide)).mono (fun r94 h95 p96 => ?_))
            obtain ⟨hJ, fj, ⟨kp97, kp98, kp99, kp100, kp101, xq102, xq103, xq104, -⟩, rfl⟩ := p96
            have f105 := fj
            have fr := fr.trans fj (by decide)
            have hI := hJ
            have s106 : (h95.1 102 0).toInt = (h.1 102 0).toInt := by rw [(f105 102 (by decide)).1]
            have s107 : (h95.1 102 5).toInt = (h.1 102 5).toInt := by rw [(f105 102 (by decide)).1]
            have s108 : (h95.1 102 6).toInt = (h.1 102 6).toInt := by rw [(f105 102 (by decide)).1]
            have s109 : (h95.1 102 9).toInt = (h.1 102 9).toInt := by rw [(f105 102 (by decide)).1]
            have s110 : (h95.1 102 10).toInt = (h.1 102 10).toInt := by rw [(f105 102 (by decide)).1]
            have b111 : (0 : Int) ≤ (h95.1 96 12).toInt ∧ (h95.1 96 12).toInt ≤ 3 := hI.1 96 12
            show RUN d_X9_readNext 91 [(1, .inl 1), (0, .inr (.inr (.inl 96)))] [] h95 _
            refine R_aload_n (k := 0) rfl rfl rfl ?_
            refine R_callV (v := .inr (.inr (.inl 96))) (As := []) (rest := []) rfl mt_9_i176 pp_X9_good (by decide) rfl rfl rfl (Nat.le_of_ble_eq_true rfl) (Nat.le_of_ble_eq_true rfl) ((k_X9_good h95 hI).mono (fun r112 h113 p114 => ?_))
            obtain ⟨rfl, x115, rfl, q116 | q116⟩ := p114
            · show RUN d_X9_readNext 95 [(1, .inl 1), (0, .inr (.inr (.inl 96)))] [.inl x115] h95 _
              refine N_if_ne (a := x115.toInt) 99 rfl rfl rfl (fun c117 => ?_) (fun c117 => ?_)
              · exfalso; omega
              · exact R_vret rfl rfl ⟨hI, fr, ⟨by omega, by omega, by omega, by omega, by omega, by omega, by omega, trivial⟩, rfl⟩
            · exfalso; omega
      · refine R_aload_n (k := 0) rfl rfl rfl ?_
        refine R_getf_r (j := 14) rfl ft_9_31 sh_96 rfl ?_
        refine R_iconst 5 rfl rfl ?_
        refine R_iald rfl sh_102 (by decide) ?_
        show RUN d_X9_readNext 66 [(1, .inl 1), (0, .inr (.inr (.inl 96)))] [.inl (h.1 102 5)] h _
        refine R_bipush 6 rfl rfl ?_
        refine N_icmp_eq (a := (h.1 102 5).toInt) (b := 6) 86 rfl rfl rfl (by decide) (fun c118 => ?_) (fun c118 => ?_)
        · refine R_aload_n (k := 0) rfl rfl rfl ?_
          refine R_iconst 3 rfl rfl ?_
          have k119 : (3 : Int32).toInt = 3 := by decide
          refine R_callV (v := .inr (.inr (.inl 96))) (As := [.inl 3]) (rest := []) rfl mt_9_i198 pp_X9_errs (by decide) rfl rfl rfl (Nat.le_of_ble_eq_true rfl) (Nat.le_of_ble_eq_true rfl) ((g_X9_errs h hI (3 : Int32) (by decide)).mono (fun r120 h121 p122 => ?_))
          obtain ⟨hJ, fj, ⟨kp123, kp124, kp125, kp126, kp127, xq128, xq129, xq130, -⟩, rfl⟩ := p122
          have f131 := fj
          have fr := fr.trans fj (by decide)
          have hI := hJ
          have s132 : (h121.1 102 0).toInt = (h.1 102 0).toInt := by rw [(f131 102 (by decide)).1]
          have s133 : (h121.1 102 5).toInt = (h.1 102 5).toInt := by rw [(f131 102 (by decide)).1]
          have s134 : (h121.1 102 6).toInt = (h.1 102 6).toInt := by rw [(f131 102 (by decide)).1]
          have s135 : (h121.1 102 9).toInt = (h.1 102 9).toInt := by rw [(f131 102 (by decide)).1]
          have s136 : (h121.1 102 10).toInt = (h.1 102 10).toInt := by rw [(f131 102 (by decide)).1]
          have b137 : (0 : Int) ≤ (h121.1 96 12).toInt ∧ (h121.1 96 12).toInt ≤ 3 := hI.1 96 12
          show RUN d_X9_readNext 91 [(1, .inl 1), (0, .inr (.inr (.inl 96)))] [] h121 _
          refine R_aload_n (k := 0) rfl rfl rfl ?_
          refine R_callV (v := .inr (.inr (.inl 96))) (As := []) (rest := []) rfl mt_9_i176 pp_X9_good (by decide) rfl rfl rfl (Nat.le_of_ble_eq_true rfl) (Nat.le_of_ble_eq_true rfl) ((k_X9_good h121 hI).mono (fun r138 h139 p140 => ?_))
          obtain ⟨rfl, x141, rfl, q142 | q142⟩ := p140
          · show RUN d_X9_readNext 95 [(1, .inl 1), (0, .inr (.inr (.inl 96)))] [.inl x141] h121 _
            refine N_if_ne (a := x141.toInt) 99 rfl rfl rfl (fun c143 => ?_) (fun c143 => ?_)
            · exfalso; omega
            · exact R_vret rfl rfl ⟨hI, fr, ⟨by omega, by omega, by omega, by omega, by omega, by omega, by omega, trivial⟩, rfl⟩
          · exfalso; omega
        · refine R_iload_n (k := 1) rfl rfl rfl ?_
          refine N_if_eq (a := 1) 91 rfl rfl (by decide) (fun c144 => ?_) (fun c144 => ?_)
          · exfalso; omega
          · refine R_aload_n (k := 0) rfl rfl rfl ?_
            refine R_getf_r (j := 14) rfl ft_9_31 sh_96 rfl ?_
            refine R_bipush 6 rfl rfl ?_
            refine R_iald rfl sh_102 (by decide) ?_
            show RUN d_X9_readNext 82 [(1, .inl 1), (0, .inr (.inr (.inl 96)))] [.inl (h.1 102 6)] h _
            refine R_iconst 5 rfl rfl ?_
            refine N_icmp_ne (a := (h.1 102 6).toInt) (b := 5) 91 rfl rfl rfl (by decide) (fun c145 => ?_) (fun c145 => ?_)
            · refine R_aload_n (k := 0) rfl rfl rfl ?_
              refine R_callV (v := .inr (.inr (.inl 96))) (As := []) (rest := []) rfl mt_9_i176 pp_X9_good (by decide) rfl rfl rfl (Nat.le_of_ble_eq_true rfl) (Nat.le_of_ble_eq_true rfl) ((k_X9_good h hI).mono (fun r146 h147 p148 => ?_))
              obtain ⟨rfl, x149, rfl, q150 | q150⟩ := p148
              · show RUN d_X9_readNext 95 [(1, .inl 1), (0, .inr (.inr (.inl 96)))] [.inl x149] h _
                refine N_if_ne (a := x149.toInt) 99 rfl rfl rfl (fun c151 => ?_) (fun c151 => ?_)
                · exfalso; omega
                · exact R_vret rfl rfl ⟨hI, fr, ⟨by omega, by omega, by omega, by omega, by omega, by omega, by omega, trivial⟩, rfl⟩
              · show RUN d_X9_readNext 95 [(1, .inl 1), (0, .inr (.inr (.inl 96)))] [.inl x149] h _
                refine N_if_ne (a := x149.toInt) 99 rfl rfl rfl (fun c152 => ?_) (fun c152 => ?_)
                · refine R_aload_n (k := 0) rfl rfl rfl ?_
                  refine R_ldc_s (i := 6) rfl kt_9_229 ?_
                  refine R_callV (v := .inr (.inr (.inl 96))) (As := [.inr (.inr (.inr 7))]) (rest := []) rfl mt_9_i195 pp_X9_takes (by decide) rfl rfl rfl (Nat.le_of_ble_eq_true rfl) (Nat.le_of_ble_eq_true rfl) ((g_X9_takes h hI).mono (fun r153 h154 p155 => ?_))
                  obtain ⟨hJ, fj, ⟨kp156, kp157, kp158, kp159, xq160, xq161, -⟩, x164, rfl, q165, zq162, zq163, -⟩ := p155
                  have f166 := fj
                  have fr := fr.trans fj (by decide)
                  have hI := hJ
                  have s167 : (h154.1 102 0).toInt = (h.1 102 0).toInt := by rw [(f166 102 (by decide)).1]
                  have s168 : (h154.1 102 5).toInt = (h.1 102 5).toInt := by rw [(f166 102 (by decide)).1]
                  have s169 : (h154.1 102 6).toInt = (h.1 102 6).toInt := by rw [(f166 102 (by decide)).1]
                  have s170 : (h154.1 102 9).toInt = (h.1 102 9).toInt := by rw [(f166 102 (by decide)).1]
                  have s171 : (h154.1 102 10).toInt = (h.1 102 10).toInt := by rw [(f166 102 (by decide)).1]
                  have b172 : (0 : Int) ≤ (h154.1 96 8).toInt ∧ (h154.1 96 8).toInt ≤ 500 := hI.1 96 8
                  show RUN d_X9_readNext 105 [(1, .inl 1), (0, .inr (.inr (.inl 96)))] [.inl x164] h154 _
                  have tq173 : x164.toInt = x20.toInt := by rw [zq162, ← za22]
                  refine N_if_eq (a := x164.toInt) 165 rfl rfl rfl (fun c174 => ?_) (fun c174 => ?_)
                  · exfalso; omega
                  · refine R_bipush 11 rfl rfl ?_
                    refine R_iconst 2 rfl rfl ?_
                    refine R_aload_n (k := 0) rfl rfl rfl ?_
                    refine R_getf_r (j := 14) rfl ft_9_31 sh_96 rfl ?_
                    refine R_iconst 5 rfl rfl ?_
                    refine R_iald rfl sh_102 (by decide) ?_
                    show RUN d_X9_readNext 117 [(1, .inl 1), (0, .inr (.inr (.inl 96)))] [.inl (h154.1 102 5), .inl 2, .inl 11] h154 _
                    refine N_imul (a := 2) (b := (h154.1 102 5).toInt) rfl (by decide) rfl (by omega) (fun x175 q176 => ?_)
                    refine N_iadd (a := 11) (b := x175.toInt) rfl (by decide) rfl (by omega) (fun x177 q178 => ?_)
                    refine R_istore_n (k := 2) rfl [(2, .inl x177), (1, .inl 1), (0, .inr (.inr (.inl 96)))] rfl rfl (by decide) ?_
                    refine R_aload_n (k := 0) rfl rfl rfl ?_
                    refine R_getf_r (j := 14) rfl ft_9_31 sh_96 rfl ?_
                    refine R_iload_n (k := 2) rfl rfl rfl ?_
                    refine R_aload_n (k := 0) rfl rfl rfl ?_
                    refine R_ldc_s (i := 7) rfl kt_9_233 ?_
                    refine R_iconst 1 rfl rfl ?_
                    refine R_bipush 6 rfl rfl ?_
                    have k179 : (1 : Int32).toInt = 1 := by decide
                    have k180 : (6 : Int32).toInt = 6 := by decide
                    refine R_callV (v := .inr (.inr (.inl 96))) (As := [.inr (.inr (.inr 8)), .inl 1, .inl 6]) (rest := [.inl x177, .inr (.inr (.inl 102))]) rfl mt_9_i213 pp_X9_told (by decide) rfl rfl rfl (Nat.le_of_ble_eq_true rfl) (Nat.le_of_ble_eq_true rfl) ((g_X9_told h154 hI (1 : Int32) (6 : Int32) (by decide) (by decide)).mono (fun r181 h182 p183 => ?_))
                    obtain ⟨hJ, fj, ⟨kp184, kp185, xq186, xq187, -⟩, x190, rfl, q191, zq188, zq189, -⟩ := p183
                    have f192 := fj
                    have fr := fr.trans fj (by decide)
                    have hI := hJ
                    have s193 : (h182.1 102 0).toInt = (h154.1 102 0).toInt := by rw [(f192 102 (by decide)).1]
                    have s194 : (h182.1 102 5).toInt = (h154.1 102 5).toInt := by rw [(f192 102 (by decide)).1]
                    have s195 : (h182.1 102 6).toInt = (h154.1 102 6).toInt := by rw [(f192 102 (by decide)).1]
                    have s196 : (h182.1 102 9).toInt = (h154.1 102 9).toInt := by rw [(f192 102 (by decide)).1]
                    have s197 : (h182.1 102 10).toInt = (h154.1 102 10).toInt := by rw [(f192 102 (by decide)).1]
                    have b198 : (0 : Int) ≤ (h182.1 96 12).toInt ∧ (h182.1 96 12).toInt ≤ 3 := hI.1 96 12
                    have b199 : (0 : Int) ≤ (h182.1 96 8).toInt ∧ (h182.1 96 8).toInt ≤ 500 := hI.1 96 8
                    show RUN d_X9_readNext 134 [(2, .inl x177), (1, .inl 1), (0, .inr (.inr (.inl 96)))] [.inl x190, .inl x177, .inr (.inr (.inl 102))] h182 _
                    refine K_iast (a := x177.toInt) (lo := 0) (hi' := 6) rfl sh_102 rfl ⟨by omega, by omega⟩ hI (by decide) (bnd_hp (by omega)) (by omega) fr (by decide) (fun h200 g201 hI fr => ?_)
                    have s202 : (h200.1 102 0).toInt = (h182.1 102 0).toInt := by rw [g201, wI_at (i := 0) (nepl (x := x177) (c := 0) (by omega))]
                    have s203 : (h200.1 102 5).toInt = (h182.1 102 5).toInt := by rw [g201, wI_at (i := 5) (nepl (x := x177) (c := 5) (by omega))]
                    have s204 : (h200.1 102 6).toInt = (h182.1 102 6).toInt := by rw [g201, wI_at (i := 6) (nepl (x := x177) (c := 6) (by omega))]
                    have s205 : (h200.1 102 9).toInt = (h182.1 102 9).toInt := by rw [g201, wI_at (i := 9) (nepl (x := x177) (c := 9) (by omega))]
                    have s206 : (h200.1 102 10).toInt = (h182.1 102 10).toInt := by rw [g201, wI_at (i := 10) (nepl (x := x177) (c := 10) (by omega))]
                    have s207 : (h200.1 96 7).toInt = (h182.1 96 7).toInt := by rw [g201, wI_ne _ _ _ (by decide)]
                    have s208 : (h200.1 96 5).toInt = (h182.1 96 5).toInt := by rw [g201, wI_ne _ _ _ (by decide)]
                    have s209 : (h200.1 96 12).toInt = (h182.1 96 12).toInt := by rw [g201, wI_ne _ _ _ (by decide)]
                    have s210 : (h200.1 96 8).toInt = (h182.1 96 8).toInt := by rw [g201, wI_ne _ _ _ (by decide)]
                    refine R_aload_n (k := 0) rfl rfl rfl ?_
                    refine R_getf_r (j := 14) rfl ft_9_31 sh_96 rfl ?_
                    refine R_iload_n (k := 2) rfl rfl rfl ?_
                    refine R_iconst 1 rfl rfl ?_
                    refine N_iadd (a := x177.toInt) (b := 1) rfl rfl (by decide) (by omega) (fun x211 q212 => ?_)
                    refine R_aload_n (k := 0) rfl rfl rfl ?_
                    refine R_ldc_s (i := 8) rfl kt_9_235 ?_
                    refine R_iconst 0 rfl rfl ?_
                    refine R_bipush 9 rfl rfl ?_
                    have k213 : (0 : Int32).toInt = 0 := by decide
                    have k214 : (9 : Int32).toInt = 9 := by decide
                    refine R_callV (v := .inr (.inr (.inl 96))) (As := [.inr (.inr (.inr 9)), .inl 0, .inl 9]) (rest := [.inl x211, .inr (.inr (.inl 102))]) rfl mt_9_i213 pp_X9_told (by decide) rfl rfl rfl (Nat.le_of_ble_eq_true rfl) (Nat.le_of_ble_eq_true rfl) ((g_X9_told_1 h200 hI (0 : Int32) (9 : Int32) (by decide) (by decide)).mono (fun r215 h216 p217 => ?_))
                    obtain ⟨hJ, fj, ⟨kp218, kp219, xq220, xq221, -⟩, x224, rfl, q225, zq222, zq223, -⟩ := p217
                    have f226 := fj
                    have fr := fr.trans fj (by decide)
                    have hI := hJ
                    have s227 : (h216.1 102 0).toInt = (h200.1 102 0).toInt := by rw [(f226 102 (by decide)).1]
                    have s228 : (h216.1 102 5).toInt = (h200.1 102 5).toInt := by rw [(f226 102 (by decide)).1]
                    have s229 : (h216.1 102 6).toInt = (h200.1 102 6).toInt := by rw [(f226 102 (by decide)).1]
                    have s230 : (h216.1 102 9).toInt = (h200.1 102 9).toInt := by rw [(f226 102 (by decide)).1]
                    have s231 : (h216.1 102 10).toInt = (h200.1 102 10).toInt := by rw [(f226 102 (by decide)).1]
                    have b232 : (0 : Int) ≤ (h216.1 96 12).toInt ∧ (h216.1 96 12).toInt ≤ 3 := hI.1 96 12
                    have b233 : (0 : Int) ≤ (h216.1 96 8).toInt ∧ (h216.1 96 8).toInt ≤ 500 := hI.1 96 8
                    show RUN d_X9_readNext 151 [(2, .inl x177), (1, .inl 1), (0, .inr (.inr (.inl 96)))] [.inl x224, .inl x211, .inr (.inr (.inl 102))] h216 _
                    refine K_iast (a := x211.toInt) (lo := (-2147483648)) (hi' := 2147483647) rfl sh_102 rfl ⟨by omega, by omega⟩ hI (by decide) (bnd_he (by omega)) (i_rng _) fr (by decide) (fun h234 g235 hI fr => ?_)
                    have s236 : (h234.1 102 0).toInt = (h216.1 102 0).toInt := by rw [g235, wI_at (i := 0) (nepl (x := x211) (c := 0) (by omega))]
                    have s237 : (h234.1 102 5).toInt = (h216.1 102 5).toInt := by rw [g235, wI_at (i := 5) (nepl (x := x211) (c := 5) (by omega))]
                    have s238 : (h234.1 102 6).toInt = (h216.1 102 6).toInt := by rw [g235, wI_at (i := 6) (nepl (x := x211) (c := 6) (by omega))]
                    have s239 : (h234.1 102 9).toInt = (h216.1 102 9).toInt := by rw [g235, wI_at (i := 9) (nepl (x := x211) (c := 9) (by omega))]
                    have s240 : (h234.1 102 10).toInt = (h216.1 102 10).toInt := by rw [g235, wI_at (i := 10) (nepl (x := x211) (c := 10) (by omega))]
                    have s241 : (h234.1 96 7).toInt = (h216.1 96 7).toInt := by rw [g235, wI_ne _ _ _ (by decide)]
                    have s242 : (h234.1 96 5).toInt = (h216.1 96 5).toInt := by rw [g235, wI_ne _ _ _ (by decide)]
                    have s243 : (h234.1 96 12).toInt = (h216.1 96 12).toInt := by rw [g235, wI_ne _ _ _ (by decide)]
                    have s244 : (h234.1 96 8).toInt = (h216.1 96 8).toInt := by rw [g235, wI_ne _ _ _ (by decide)]
                    refine R_aload_n (k := 0) rfl rfl rfl ?_
                    refine R_getf_r (j := 14) rfl ft_9_31 sh_96 rfl ?_
                    refine R_iconst 5 rfl rfl ?_
                    refine R_dup2 rfl ?_
                    refine R_iald rfl sh_102 (by decide) ?_
                    show RUN d_X9_readNext 159 [(2, .inl x177), (1, .inl 1), (0, .inr (.inr (.inl 96)))] [.inl (h234.1 102 5), .inl 5, .inr (.inr (.inl 102))] h234 _
                    refine R_iconst 1 rfl rfl ?_
                    refine N_iadd (a := (h234.1 102 5).toInt) (b := 1) rfl rfl (by decide) (by omega) (fun x245 q246 => ?_)
                    refine K_iast (a := 5) (lo := 0) (hi' := 6) rfl sh_102 (by decide) (by decide) hI (by decide) rfl (by omega) fr (by decide) (fun h247 g248 hI fr => ?_)
                    have s249 : (h247.1 102 0).toInt = (h234.1 102 0).toInt := by rw [g248, show (5 : Int32).toNatClampNeg = 5 from rfl, wI_at (by decide)]
                    have s250 : (h247.1 102 6).toInt = (h234.1 102 6).toInt := by rw [g248, show (5 : Int32).toNatClampNeg = 5 from rfl, wI_at (by decide)]
                    have s251 : (h247.1 102 9).toInt = (h234.1 102 9).toInt := by rw [g248, show (5 : Int32).toNatClampNeg = 5 from rfl, wI_at (by decide)]
                    have s252 : (h247.1 102 10).toInt = (h234.1 102 10).toInt := by rw [g248, show (5 : Int32).toNatClampNeg = 5 from rfl, wI_at (by decide)]
                    have s253 : (h247.1 96 7).toInt = (h234.1 96 7).toInt := by rw [g248, wI_ne _ _ _ (by decide)]
                    have s254 : (h247.1 96 5).toInt = (h234.1 96 5).toInt := by rw [g248, wI_ne _ _ _ (by decide)]
                    have s255 : (h247.1 96 12).toInt = (h234.1 96 12).toInt := by rw [g248, wI_ne _ _ _ (by decide)]
                    have s256 : (h247.1 96 8).toInt = (h234.1 96 8).toInt := by rw [g248, wI_ne _ _ _ (by decide)]
                    have s257 : (h247.1 102 5).toInt = x245.toInt := by rw [g248, show (5 : Int32).toNatClampNeg = 5 from rfl, wI_is]
                    refine R_goto 236 rfl rfl ?_
                    exact R_vret rfl rfl ⟨hI, fr, ⟨by omega, by omega, by omega, by omega, by omega, by omega, by omega, trivial⟩, rfl⟩
                · exfalso; omega
            · refine R_aload_n (k := 0) rfl rfl rfl ?_
              refine R_iconst 3 rfl rfl ?_
              have k258 : (3 : Int32).toInt = 3 := by decide
              refine R_callV (v := .inr (.inr (.inl 96))) (As := [.inl 3]) (rest := []) rfl mt_9_i198 pp_X9_errs (by decide) rfl rfl rfl (Nat.le_of_ble_eq_true rfl) (Nat.le_of_ble_eq_true rfl) ((g_X9_errs h hI (3 : Int32) (by decide)).mono (fun r259 h260 p261 => ?_))
              obtain ⟨hJ, fj, ⟨kp262, kp263, kp264, kp265, kp266, xq267, xq268, xq269, -⟩, rfl⟩ := p261
              have f270 := fj
              have fr := fr.trans fj (by decide)
              have hI := hJ
              have s271 : (h260.1 102 0).toInt = (h.1 102 0).toInt := by rw [(f270 102 (by decide)).1]
              have s272 : (h260.1 102 5).toInt = (h.1 102 5).toInt := by rw [(f270 102 (by decide)).1]
              have s273 : (h260.1 102 6).toInt = (h.1 102 6).toInt := by rw [(f270 102 (by decide)).1]
              have s274 : (h260.1 102 9).toInt = (h.1 102 9).toInt := by rw [(f270 102 (by decide)).1]
              have s275 : (h260.1 102 10).toInt = (h.1 102 10).toInt := by rw [(f270 102 (by decide)).1]
              have b276 : (0 : Int) ≤ (h260.1 96 12).toInt ∧ (h260.1 96 12).toInt ≤ 3 := hI.1 96 12
              show RUN d_X9_readNext 91 [(1, .inl 1), (0, .inr (.inr (.inl 96)))] [] h260 _
              refine R_aload_n (k := 0) rfl rfl rfl ?_
              refine R_callV (v := .inr (.inr (.inl 96))) (As := []) (rest := []) rfl mt_9_i176 pp_X9_good (by decide) rfl rfl rfl (Nat.le_of_ble_eq_true rfl) (Nat.le_of_ble_eq_true rfl) ((k_X9_good h260 hI).mono (fun r277 h278 p279 => ?_))
              obtain ⟨rfl, x280, rfl, q281 | q281⟩ := p279
              · show RUN d_X9_readNext 95 [(1, .inl 1), (0, .inr (.inr (.inl 96)))] [.inl x280] h260 _
                refine N_if_ne (a := x280.toInt) 99 rfl rfl rfl (fun c282 => ?_) (fun c282 => ?_)
                · exfalso; omega
                · exact R_vret rfl rfl ⟨hI, fr, ⟨by omega, by omega, by omega, by omega, by omega, by omega, by omega, trivial⟩, rfl⟩
              · exfalso; omega
    · exfalso; omega
  · refine R_aload_n (k := 0) rfl rfl rfl ?_
    refine R_ldc_s (i := 10) rfl kt_9_227 ?_
    refine R_callV (v := .inr (.inr (.inl 96))) (As := [.inr (.inr (.inr 11))]) (rest := []) rfl mt_9_i188 pp_X9_is (by decide) rfl rfl rfl (Nat.le_of_ble_eq_true rfl) (Nat.le_of_ble_eq_true rfl) ((CALL_ans (g_X9_is_4 h hI)).mono (fun r283 h284 p285 => ?_))
    obtain ⟨⟨rfl, x286, rfl, q287⟩, za288⟩ := p285
    have za288 := za288 _ rfl
    show RUN d_X9_readNext 15 [(0, .inr (.inr (.inl 96)))] [.inl x286] h _
    refine N_if_eq (a := x286.toInt) 22 rfl rfl rfl (fun c289 => ?_) (fun c289 => ?_)
    · refine R_iconst 0 rfl rfl ?_
      refine R_istore_n (k := 1) rfl [(1, .inl 0), (0, .inr (.inr (.inl 96)))] rfl rfl (by decide) ?_
      refine R_iload_n (k := 1) rfl rfl rfl ?_
      refine N_if_ne (a := 0) 51 rfl rfl (by decide) (fun c290 => ?_) (fun c290 => ?_)
      · exfalso; omega
      · refine R_aload_n (k := 0) rfl rfl rfl ?_
        refine R_ldc_s (i := 6) rfl kt_9_229 ?_
        refine R_callV (v := .inr (.inr (.inl 96))) (As := [.inr (.inr (.inr 7))]) (rest := []) rfl mt_9_i188 pp_X9_is (by decide) rfl rfl rfl (Nat.le_of_ble_eq_true rfl) (Nat.le_of_ble_eq_true rfl) ((CALL_ans (g_X9_is_1 h hI)).mono (fun r291 h292 p293 => ?_))
        obtain ⟨⟨rfl, x294, rfl, q295⟩, za296⟩ := p293
        have za296 := za296 _ rfl
        show RUN d_X9_readNext 34 [(1, .inl 0), (0, .inr (.inr (.inl 96)))] [.inl x294] h _
        refine N_if_ne (a := x294.toInt) 51 rfl rfl rfl (fun c297 => ?_) (fun c297 => ?_)
        · refine R_aload_n (k := 0) rfl rfl rfl ?_
          refine R_ldc_s (i := 6) rfl kt_9_229 ?_
          refine R_callV (v := .inr (.inr (.inl 96))) (As := [.inr (.inr (.inr 7))]) (rest := []) rfl mt_9_i188 pp_X9_is (by decide) rfl rfl rfl (Nat.le_of_ble_eq_true rfl) (Nat.le_of_ble_eq_true rfl) ((CALL_ans (g_X9_is_1 h hI)).mono (fun r298 h299 p300 => ?_))
          obtain ⟨⟨rfl, x301, rfl, q302⟩, za303⟩ := p300
          have za303 := za303 _ rfl
          show RUN d_X9_readNext 57 [(1, .inl 0), (0, .inr (.inr (.inl 96)))] [.inl x301] h _
          refine N_if_eq (a := x301.toInt) 71 rfl rfl rfl (fun c304 => ?_) (fun c304 => ?_)
          · refine R_iload_n (k := 1) rfl rfl rfl ?_
            refine N_if_eq (a := 0) 91 rfl rfl (by decide) (fun c305 => ?_) (fun c305 => ?_)
            · refine R_aload_n (k := 0) rfl rfl rfl ?_
              refine R_callV (v := .inr (.inr (.inl 96))) (As := []) (rest := []) rfl mt_9_i176 pp_X9_good (by decide) rfl rfl rfl (Nat.le_of_ble_eq_true rfl) (Nat.le_of_ble_eq_true rfl) ((k_X9_good h hI).mono (fun r306 h307 p308 => ?_))
              obtain ⟨rfl, x309, rfl, q310 | q310⟩ := p308
              · show RUN d_X9_readNext 95 [(1, .inl 0), (0, .inr (.inr (.inl 96)))] [.inl x309] h _
                refine N_if_ne (a := x309.toInt) 99 rfl rfl rfl (fun c311 => ?_) (fun c311 => ?_)
                · exfalso; omega
                · exact R_vret rfl rfl ⟨hI, fr, ⟨by omega, by omega, by omega, by omega, by omega, by omega, by omega, trivial⟩, rfl⟩
              · show RUN d_X9_readNext 95 [(1, .inl 0), (0, .inr (.inr (.inl 96)))] [.inl x309] h _
                refine N_if_ne (a := x309.toInt) 99 rfl rfl rfl (fun c312 => ?_) (fun c312 => ?_)
                · refine R_aload_n (k := 0) rfl rfl rfl ?_
                  refine R_ldc_s (i := 6) rfl kt_9_229 ?_
                  refine R_callV (v := .inr (.inr (.inl 96))) (As := [.inr (.inr (.inr 7))]) (rest := []) rfl mt_9_i195 pp_X9_takes (by decide) rfl rfl rfl (Nat.le_of_ble_eq_true rfl) (Nat.le_of_ble_eq_true rfl) ((g_X9_takes h hI).mono (fun r313 h314 p315 => ?_))
                  obtain ⟨hJ, fj, ⟨kp316, kp317, kp318, kp319, xq320, xq321, -⟩, x324, rfl, q325, zq322, zq323, -⟩ := p315
                  have f326 := fj
                  have fr := fr.trans fj (by decide)
                  have hI := hJ
                  have s327 : (h314.1 102 0).toInt = (h.1 102 0).toInt := by rw [(f326 102 (by decide)).1]
                  have s328 : (h314.1 102 5).toInt = (h.1 102 5).toInt := by rw [(f326 102 (by decide)).1]
                  have s329 : (h314.1 102 6).toInt = (h.1 102 6).toInt := by rw [(f326 102 (by decide)).1]
                  have s330 : (h314.1 102 9).toInt = (h.1 102 9).toInt := by rw [(f326 102 (by decide)).1]
                  have s331 : (h314.1 102 10).toInt = (h.1 102 10).toInt := by rw [(f326 102 (by decide)).1]
                  have b332 : (0 : Int) ≤ (h314.1 96 8).toInt ∧ (h314.1 96 8).toInt ≤ 500 := hI.1 96 8
                  show RUN d_X9_readNext 105 [(1, .inl 0), (0, .inr (.inr (.inl 96)))] [.inl x324] h314 _
                  have tq333 : x324.toInt = x301.toInt := by rw [zq322, ← za303]
                  refine N_if_eq (a := x324.toInt) 165 rfl rfl rfl (fun c334 => ?_) (fun c334 => ?_)
                  · refine R_aload_n (k := 0) rfl rfl rfl ?_
                    refine R_ldc_s (i := 9) rfl kt_9_225 ?_
                    refine R_callV (v := .inr (.inr (.inl 96))) (As := [.inr (.inr (.inr 10))]) (rest := []) rfl mt_9_i195 pp_X9_takes (by decide) rfl rfl rfl (Nat.le_of_ble_eq_true rfl) (Nat.le_of_ble_eq_true rfl) ((g_X9_takes_1 h314 hI).mono (fun r335 h336 p337 => ?_))
                    obtain ⟨hJ, fj, ⟨kp338, kp339, kp340, kp341, xq342, xq343, -⟩, x346, rfl, q347, zq344, zq345, -⟩ := p337
                    have f348 := fj
                    have fr := fr.trans fj (by decide)
                    have hI := hJ
                    have s349 : (h336.1 102 0).toInt = (h314.1 102 0).toInt := by rw [(f348 102 (by decide)).1]
                    have s350 : (h336.1 102 5).toInt = (h314.1 102 5).toInt := by rw [(f348 102 (by decide)).1]
                    have s351 : (h336.1 102 6).toInt = (h314.1 102 6).toInt := by rw [(f348 102 (by decide)).1]
                    have s352 : (h336.1 102 9).toInt = (h314.1 102 9).toInt := by rw [(f348 102 (by decide)).1]
                    have s353 : (h336.1 102 10).toInt = (h314.1 102 10).toInt := by rw [(f348 102 (by decide)).1]
                    have b354 : (0 : Int) ≤ (h336.1 96 8).toInt ∧ (h336.1 96 8).toInt ≤ 500 := hI.1 96 8
                    show RUN d_X9_readNext 171 [(1, .inl 0), (0, .inr (.inr (.inl 96)))] [.inl x346] h336 _
                    have tq355 : x346.toInt = x12.toInt := by rw [zq344, zq323 (by omega), ← za14]
                    refine N_if_eq (a := x346.toInt) 182 rfl rfl rfl (fun c356 => ?_) (fun c356 => ?_)
                    · refine R_aload_n (k := 0) rfl rfl rfl ?_
                      refine R_ldc_s (i := 10) rfl kt_9_227 ?_
                      refine R_callV (v := .inr (.inr (.inl 96))) (As := [.inr (.inr (.inr 11))]) (rest := []) rfl mt_9_i195 pp_X9_takes (by decide) rfl rfl rfl (Nat.le_of_ble_eq_true rfl) (Nat.le_of_ble_eq_true rfl) ((g_X9_takes_4 h336 hI).mono (fun r357 h358 p359 => ?_))
                      obtain ⟨hJ, fj, ⟨kp360, kp361, kp362, kp363, xq364, xq365, -⟩, x368, rfl, q369, zq366, zq367, -⟩ := p359
                      have f370 := fj
                      have fr := fr.trans fj (by decide)
                      have hI := hJ
                      have s371 : (h358.1 102 0).toInt = (h336.1 102 0).toInt := by rw [(f370 102 (by decide)).1]
                      have s372 : (h358.1 102 5).toInt = (h336.1 102 5).toInt := by rw [(f370 102 (by decide)).1]
                      have s373 : (h358.1 102 6).toInt = (h336.1 102 6).toInt := by rw [(f370 102 (by decide)).1]
                      have s374 : (h358.1 102 9).toInt = (h336.1 102 9).toInt := by rw [(f370 102 (by decide)).1]
                      have s375 : (h358.1 102 10).toInt = (h336.1 102 10).toInt := by rw [(f370 102 (by decide)).1]
                      have b376 : (0 : Int) ≤ (h358.1 96 8).toInt ∧ (h358.1 96 8).toInt ≤ 500 := hI.1 96 8
                      show RUN d_X9_readNext 188 [(1, .inl 0), (0, .inr (.inr (.inl 96)))] [.inl x368] h358 _
                      have tq377 : x368.toInt = x286.toInt := by rw [zq366, zq345 (by omega), zq323 (by omega), ← za288]
                      refine N_if_eq (a := x368.toInt) 199 rfl rfl rfl (fun c378 => ?_) (fun c378 => ?_)
                      · refine R_aload_n (k := 0) rfl rfl rfl ?_
                        refine R_callV (v := .inr (.inr (.inl 96))) (As := []) (rest := []) rfl mt_9_i192 pp_X9_advance (by decide) rfl rfl rfl (Nat.le_of_ble_eq_true rfl) (Nat.le_of_ble_eq_true rfl) ((g_X9_advance h358 hI).mono (fun r379 h380 p381 => ?_))
                        obtain ⟨hJ, fj, ⟨kp382, kp383, kp384, kp385, xq386, xq387, -⟩, rfl⟩ := p381
                        have f388 := fj
                        have fr := fr.trans fj (by decide)
                        have hI := hJ
                        have s389 : (h380.1 102 0).toInt = (h358.1 102 0).toInt := by rw [(f388 102 (by decide)).1]
                        have s390 : (h380.1 102 5).toInt = (h358.1 102 5).toInt := by rw [(f388 102 (by decide)).1]
                        have s391 : (h380.1 102 6).toInt = (h358.1 102 6).toInt := by rw [(f388 102 (by decide)).1]
                        have s392 : (h380.1 102 9).toInt = (h358.1 102 9).toInt := by rw [(f388 102 (by decide)).1]
                        have s393 : (h380.1 102 10).toInt = (h358.1 102 10).toInt := by rw [(f388 102 (by decide)).1]
                        have b394 : (0 : Int) ≤ (h380.1 96 8).toInt ∧ (h380.1 96 8).toInt ≤ 500 := hI.1 96 8
                        show RUN d_X9_readNext 203 [(1, .inl 0), (0, .inr (.inr (.inl 96)))] [] h380 _
                        refine R_aload_n (k := 0) rfl rfl rfl ?_
                        refine R_getf_r (j := 14) rfl ft_9_31 sh_96 rfl ?_
                        refine R_bipush 7 rfl rfl ?_
                        refine R_aload_n (k := 0) rfl rfl rfl ?_
                        refine R_ldc_s (i := 12) rfl kt_9_240 ?_
                        refine R_iconst 1 rfl rfl ?_
                        refine R_sipush 999 rfl rfl ?_
                        have k395 : (1 : Int32).toInt = 1 := by decide
                        have k396 : (999 : Int32).toInt = 999 := by decide
                        refine R_callV (v := .inr (.inr (.inl 96))) (As := [.inr (.inr (.inr 13)), .inl 1, .inl 999]) (rest := [.inl 7, .inr (.inr (.inl 102))]) rfl mt_9_i213 pp_X9_told (by decide) rfl rfl rfl (Nat.le_of_ble_eq_true rfl) (Nat.le_of_ble_eq_true rfl) ((g_X9_told_2 h380 hI (1 : Int32) (999 : Int32) (by decide) (by decide)).mono (fun r397 h398 p399 => ?_))
                        obtain ⟨hJ, fj, ⟨kp400, kp401, xq402, xq403, -⟩, x406, rfl, q407, zq404, zq405, -⟩ := p399
                        have f408 := fj
                        have fr := fr.trans fj (by decide)
                        have hI := hJ
                        have s409 : (h398.1 102 0).toInt = (h380.1 102 0).toInt := by rw [(f408 102 (by decide)).1]
                        have s410 : (h398.1 102 5).toInt = (h380.1 102 5).toInt := by rw [(f408 102 (by decide)).1]
                        have s411 : (h398.1 102 6).toInt = (h380.1 102 6).toInt := by rw [(f408 102 (by decide)).1]
                        have s412 : (h398.1 102 9).toInt = (h380.1 102 9).toInt := by rw [(f408 102 (by decide)).1]
                        have s413 : (h398.1 102 10).toInt = (h380.1 102 10).toInt := by rw [(f408 102 (by decide)).1]
                        have b414 : (0 : Int) ≤ (h398.1 96 12).toInt ∧ (h398.1 96 12).toInt ≤ 3 := hI.1 96 12
                        have b415 : (0 : Int) ≤ (h398.1 96 8).toInt ∧ (h398.1 96 8).toInt ≤ 500 := hI.1 96 8
                        show RUN d_X9_readNext 219 [(1, .inl 0), (0, .inr (.inr (.inl 96)))] [.inl x406, .inl 7, .inr (.inr (.inl 102))] h398 _
                        refine K_iast (a := 7) (lo := (-2147483648)) (hi' := 2147483647) rfl sh_102 (by decide) (by decide) hI (by decide) rfl (i_rng _) fr (by decide) (fun h416 g417 hI fr => ?_)
                        have s418 : (h416.1 102 0).toInt = (h398.1 102 0).toInt := by rw [g417, show (7 : Int32).toNatClampNeg = 7 from rfl, wI_at (by decide)]
                        have s419 : (h416.1 102 5).toInt = (h398.1 102 5).toInt := by rw [g417, show (7 : Int32).toNatClampNeg = 7 from rfl, wI_at (by decide)]
                        have s420 : (h416.1 102 6).toInt = (h398.1 102 6).toInt := by rw [g417, show (7 : Int32).toNatClampNeg = 7 from rfl, wI_at (by decide)]
                        have s421 : (h416.1 102 9).toInt = (h398.1 102 9).toInt := by rw [g417, show (7 : Int32).toNatClampNeg = 7 from rfl, wI_at (by decide)]
                        have s422 : (h416.1 102 10).toInt = (h398.1 102 10).toInt := by rw [g417, show (7 : Int32).toNatClampNeg = 7 from rfl, wI_at (by decide)]
                        have s423 : (h416.1 96 7).toInt = (h398.1 96 7).toInt := by rw [g417, wI_ne _ _ _ (by decide)]
                        have s424 : (h416.1 96 5).toInt = (h398.1 96 5).toInt := by rw [g417, wI_ne _ _ _ (by decide)]
                        have s425 : (h416.1 96 12).toInt = (h398.1 96 12).toInt := by rw [g417, wI_ne _ _ _ (by decide)]
                        have s426 : (h416.1 96 8).toInt = (h398.1 96 8).toInt := by rw [g417, wI_ne _ _ _ (by decide)]
                        have s427 : (h416.1 102 7).toInt = x406.toInt := by rw [g417, show (7 : Int32).toNatClampNeg = 7 from rfl, wI_is]
                        refine R_aload_n (k := 0) rfl rfl rfl ?_
                        refine R_getf_r (j := 14) rfl ft_9_31 sh_96 rfl ?_
                        refine R_bipush 8 rfl rfl ?_
                        refine R_aload_n (k := 0) rfl rfl rfl ?_
                        refine R_ldc_s (i := 13) rfl kt_9_242 ?_
                        refine R_iconst 0 rfl rfl ?_
                        refine R_bipush 9 rfl rfl ?_
                        have k428 : (0 : Int32).toInt = 0 := by decide
                        have k429 : (9 : Int32).toInt = 9 := by decide
                        refine R_callV (v := .inr (.inr (.inl 96))) (As := [.inr (.inr (.inr 14)), .inl 0, .inl 9]) (rest := [.inl 8, .inr (.inr (.inl 102))]) rfl mt_9_i213 pp_X9_told (by decide) rfl rfl rfl (Nat.le_of_ble_eq_true rfl) (Nat.le_of_ble_eq_true rfl) ((g_X9_told_3 h416 hI (0 : Int32) (9 : Int32) (by decide) (by decide)).mono (fun r430 h431 p432 => ?_))
                        obtain ⟨hJ, fj, ⟨kp433, kp434, xq435, xq436, -⟩, x439, rfl, q440, zq437, zq438, -⟩ := p432
                        have f441 := fj
                        have fr := fr.trans fj (by decide)
                        have hI := hJ
                        have s442 : (h431.1 102 0).toInt = (h416.1 102 0).toInt := by rw [(f441 102 (by decide)).1]
                        have s443 : (h431.1 102 5).toInt = (h416.1 102 5).toInt := by rw [(f441 102 (by decide)).1]
                        have s444 : (h431.1 102 6).toInt = (h416.1 102 6).toInt := by rw [(f441 102 (by decide)).1]
                        have s445 : (h431.1 102 9).toInt = (h416.1 102 9).toInt := by rw [(f441 102 (by decide)).1]
                        have s446 : (h431.1 102 10).toInt = (h416.1 102 10).toInt := by rw [(f441 102 (by decide)).1]
                        have s447 : (h431.1 102 7).toInt = (h416.1 102 7).toInt := by rw [(f441 102 (by decide)).1]
                        have b448 : (0 : Int) ≤ (h431.1 96 12).toInt ∧ (h431.1 96 12).toInt ≤ 3 := hI.1 96 12
                        have b449 : (0 : Int) ≤ (h431.1 96 8).toInt ∧ (h431.1 96 8).toInt ≤ 500 := hI.1 96 8
                        show RUN d_X9_readNext 235 [(1, .inl 0), (0, .inr (.inr (.inl 96)))] [.inl x439, .inl 8, .inr (.inr (.inl 102))] h431 _
                        refine K_iast (a := 8) (lo := (-2147483648)) (hi' := 2147483647) rfl sh_102 (by decide) (by decide) hI (by decide) rfl (i_rng _) fr (by decide) (fun h450 g451 hI fr => ?_)
                        have s452 : (h450.1 102 0).toInt = (h431.1 102 0).toInt := by rw [g451, show (8 : Int32).toNatClampNeg = 8 from rfl, wI_at (by decide)]
                        have s453 : (h450.1 102 5).toInt = (h431.1 102 5).toInt := by rw [g451, show (8 : Int32).toNatClampNeg = 8 from rfl, wI_at (by decide)]
                        have s454 : (h450.1 102 6).toInt = (h431.1 102 6).toInt := by rw [g451, show (8 : Int32).toNatClampNeg = 8 from rfl, wI_at (by decide)]
                        have s455 : (h450.1 102 9).toInt = (h431.1 102 9).toInt := by rw [g451, show (8 : Int32).toNatClampNeg = 8 from rfl, wI_at (by decide)]
                        have s456 : (h450.1 102 10).toInt = (h431.1 102 10).toInt := by rw [g451, show (8 : Int32).toNatClampNeg = 8 from rfl, wI_at (by decide)]
                        have s457 : (h450.1 96 7).toInt = (h431.1 96 7).toInt := by rw [g451, wI_ne _ _ _ (by decide)]
                        have s458 : (h450.1 96 5).toInt = (h431.1 96 5).toInt := by rw [g451, wI_ne _ _ _ (by decide)]
                        have s459 : (h450.1 102 7).toInt = (h431.1 102 7).toInt := by rw [g451, show (8 : Int32).toNatClampNeg = 8 from rfl, wI_at (by decide)]
                        have s460 : (h450.1 96 12).toInt = (h431.1 96 12).toInt := by rw [g451, wI_ne _ _ _ (by decide)]
                        have s461 : (h450.1 96 8).toInt = (h431.1 96 8).toInt := by rw [g451, wI_ne _ _ _ (by decide)]
                        have s462 : (h450.1 102 8).toInt = x439.toInt := by rw [g451, show (8 : Int32).toNatClampNeg = 8 from rfl, wI_is]
                        exact R_vret rfl rfl ⟨hI, fr, ⟨by omega, by omega, by omega, by omega, by omega, by omega, by omega, trivial⟩, rfl⟩
                      · exfalso; omega
                    · exfalso; omega
                  · exfalso; omega
                · exfalso; omega
            · exfalso; omega
          · refine R_aload_n (k := 0) rfl rfl rfl ?_
            refine R_getf_r (j := 14) rfl ft_9_31 sh_96 rfl ?_
            refine R_iconst 5 rfl rfl ?_
            refine R_iald rfl sh_102 (by decide) ?_
            show RUN d_X9_readNext 66 [(1, .inl 0), (0, .inr (.inr (.inl 96)))] [.inl (h.1 102 5)] h _
            refine R_bipush 6 rfl rfl ?_
            refine N_icmp_eq (a := (h.1 102 5).toInt) (b := 6) 86 rfl rfl rfl (by decide) (fun c463 => ?_) (fun c463 => ?_)
            · refine R_aload_n (k := 0) rfl rfl rfl ?_
              refine R_iconst 3 rfl rfl ?_
              have k464 : (3 : Int32).toInt = 3 := by decide
              refine R_callV (v := .inr (.inr (.inl 96))) (As := [.inl 3]) (rest := []) rfl mt_9_i198 pp_X9_errs (by decide) rfl rfl rfl (Nat.le_of_ble_eq_true rfl) (Nat.le_of_ble_eq_true rfl) ((g_X9_errs h hI (3 : Int32) (by decide)).mono (fun r465 h466 p467 => ?_))
              obtain ⟨hJ, fj, ⟨kp468, kp469, kp470, kp471, kp472, xq473, xq474, xq475, -⟩, rfl⟩ := p467
              have f476 := fj
              have fr := fr.trans fj (by decide)
              have hI := hJ
              have s477 : (h466.1 102 0).toInt = (h.1 102 0).toInt := by rw [(f476 102 (by decide)).1]
              have s478 : (h466.1 102 5).toInt = (h.1 102 5).toInt := by rw [(f476 102 (by decide)).1]
              have s479 : (h466.1 102 6).toInt = (h.1 102 6).toInt := by rw [(f476 102 (by decide)).1]
              have s480 : (h466.1 102 9).toInt = (h.1 102 9).toInt := by rw [(f476 102 (by decide)).1]
              have s481 : (h466.1 102 10).toInt = (h.1 102 10).toInt := by rw [(f476 102 (by decide)).1]
              have b482 : (0 : Int) ≤ (h466.1 96 12).toInt ∧ (h466.1 96 12).toInt ≤ 3 := hI.1 96 12
              show RUN d_X9_readNext 91 [(1, .inl 0), (0, .inr (.inr (.inl 96)))] [] h466 _
              refine R_aload_n (k := 0) rfl rfl rfl ?_
              refine R_callV (v := .inr (.inr (.inl 96))) (As := []) (rest := []) rfl mt_9_i176 pp_X9_good (by decide) rfl rfl rfl (Nat.le_of_ble_eq_true rfl) (Nat.le_of_ble_eq_true rfl) ((k_X9_good h466 hI).mono (fun r483 h484 p485 => ?_))
              obtain ⟨rfl, x486, rfl, q487 | q487⟩ := p485
              · show RUN d_X9_readNext 95 [(1, .inl 0), (0, .inr (.inr (.inl 96)))] [.inl x486] h466 _
                refine N_if_ne (a := x486.toInt) 99 rfl rfl rfl (fun c488 => ?_) (fun c488 => ?_)
                · exfalso; omega
                · exact R_vret rfl rfl ⟨hI, fr, ⟨by omega, by omega, by omega, by omega, by omega, by omega, by omega, trivial⟩, rfl⟩
              · exfalso; omega
            · refine R_iload_n (k := 1) rfl rfl rfl ?_
              refine N_if_eq (a := 0) 91 rfl rfl (by decide) (fun c489 => ?_) (fun c489 => ?_)
              · refine R_aload_n (k := 0) rfl rfl rfl ?_
                refine R_callV (v := .inr (.inr (.inl 96))) (As := []) (rest := []) rfl mt_9_i176 pp_X9_good (by decide) rfl rfl rfl (Nat.le_of_ble_eq_true rfl) (Nat.le_of_ble_eq_true rfl) ((k_X9_good h hI).mono (fun r490 h491 p492 => ?_))
                obtain ⟨rfl, x493, rfl, q494 | q494⟩ := p492
                · show RUN d_X9_readNext 95 [(1, .inl 0), (0, .inr (.inr (.inl 96)))] [.inl x493] h _
                  refine N_if_ne (a := x493.toInt) 99 rfl rfl rfl (fun c495 => ?_) (fun c495 => ?_)
                  · exfalso; omega
                  · exact R_vret rfl rfl ⟨hI, fr, ⟨by omega, by omega, by omega, by omega, by omega, by omega, by omega, trivial⟩, rfl⟩
                · show RUN d_X9_readNext 95 [(1, .inl 0), (0, .inr (.inr (.inl 96)))] [.inl x493] h _
                  refine N_if_ne (a := x493.toInt) 99 rfl rfl rfl (fun c496 => ?_) (fun c496 => ?_)
                  · refine R_aload_n (k := 0) rfl rfl rfl ?_
                    refine R_ldc_s (i := 6) rfl kt_9_229 ?_
                    refine R_callV (v := .inr (.inr (.inl 96))) (As := [.inr (.inr (.inr 7))]) (rest := []) rfl mt_9_i195 pp_X9_takes (by decide) rfl rfl rfl (Nat.le_of_ble_eq_true rfl) (Nat.le_of_ble_eq_true rfl) ((g_X9_takes h hI).mono (fun r497 h498 p499 => ?_))
                    obtain ⟨hJ, fj, ⟨kp500, kp501, kp502, kp503, xq504, xq505, -⟩, x508, rfl, q509, zq506, zq507, -⟩ := p499
                    have f510 := fj
                    have fr := fr.trans fj (by decide)
                    have hI := hJ
                    have s511 : (h498.1 102 0).toInt = (h.1 102 0).toInt := by rw [(f510 102 (by decide)).1]
                    have s512 : (h498.1 102 5).toInt = (h.1 102 5).toInt := by rw [(f510 102 (by decide)).1]
                    have s513 : (h498.1 102 6).toInt = (h.1 102 6).toInt := by rw [(f510 102 (by decide)).1]
                    have s514 : (h498.1 102 9).toInt = (h.1 102 9).toInt := by rw [(f510 102 (by decide)).1]
                    have s515 : (h498.1 102 10).toInt = (h.1 102 10).toInt := by rw [(f510 102 (by decide)).1]
                    have b516 : (0 : Int) ≤ (h498.1 96 8).toInt ∧ (h498.1 96 8).toInt ≤ 500 := hI.1 96 8
                    show RUN d_X9_readNext 105 [(1, .inl 0), (0, .inr (.inr (.inl 96)))] [.inl x508] h498 _
                    have tq517 : x508.toInt = x301.toInt := by rw [zq506, ← za303]
                    refine N_if_eq (a := x508.toInt) 165 rfl rfl rfl (fun c518 => ?_) (fun c518 => ?_)
                    · exfalso; omega
                    · refine R_bipush 11 rfl rfl ?_
                      refine R_iconst 2 rfl rfl ?_
                      refine R_aload_n (k := 0) rfl rfl rfl ?_
                      refine R_getf_r (j := 14) rfl ft_9_31 sh_96 rfl ?_
                      refine R_iconst 5 rfl rfl ?_
                      refine R_iald rfl sh_102 (by decide) ?_
                      show RUN d_X9_readNext 117 [(1, .inl 0), (0, .inr (.inr (.inl 96)))] [.inl (h498.1 102 5), .inl 2, .inl 11] h498 _
                      refine N_imul (a := 2) (b := (h498.1 102 5).toInt) rfl (by decide) rfl (by omega) (fun x519 q520 => ?_)
                      refine N_iadd (a := 11) (b := x519.toInt) rfl (by decide) rfl (by omega) (fun x521 q522 => ?_)
                      refine R_istore_n (k := 2) rfl [(2, .inl x521), (1, .inl 0), (0, .inr (.inr (.inl 96)))] rfl rfl (by decide) ?_
                      refine R_aload_n (k := 0) rfl rfl rfl ?_
                      refine R_getf_r (j := 14) rfl ft_9_31 sh_96 rfl ?_
                      refine R_iload_n (k := 2) rfl rfl rfl ?_
                      refine R_aload_n (k := 0) rfl rfl rfl ?_
                      refine R_ldc_s (i := 7) rfl kt_9_233 ?_
                      refine R_iconst 1 rfl rfl ?_
                      refine R_bipush 6 rfl rfl ?_
                      have k523 : (1 : Int32).toInt = 1 := by decide
                      have k524 : (6 : Int32).toInt = 6 := by decide
                      refine R_callV (v := .inr (.inr (.inl 96))) (As := [.inr (.inr (.inr 8)), .inl 1, .inl 6]) (rest := [.inl x521, .inr (.inr (.inl 102))]) rfl mt_9_i213 pp_X9_told (by decide) rfl rfl rfl (Nat.le_of_ble_eq_true rfl) (Nat.le_of_ble_eq_true rfl) ((g_X9_told h498 hI (1 : Int32) (6 : Int32) (by decide) (by decide)).mono (fun r525 h526 p527 => ?_))
                      obtain ⟨hJ, fj, ⟨kp528, kp529, xq530, xq531, -⟩, x534, rfl, q535, zq532, zq533, -⟩ := p527
                      have f536 := fj
                      have fr := fr.trans fj (by decide)
                      have hI := hJ
                      have s537 : (h526.1 102 0).toInt = (h498.1 102 0).toInt := by rw [(f536 102 (by decide)).1]
                      have s538 : (h526.1 102 5).toInt = (h498.1 102 5).toInt := by rw [(f536 102 (by decide)).1]
                      have s539 : (h526.1 102 6).toInt = (h498.1 102 6).toInt := by rw [(f536 102 (by decide)).1]
                      have s540 : (h526.1 102 9).toInt = (h498.1 102 9).toInt := by rw [(f536 102 (by decide)).1]
                      have s541 : (h526.1 102 10).toInt = (h498.1 102 10).toInt := by rw [(f536 102 (by decide)).1]
                      have b542 : (0 : Int) ≤ (h526.1 96 12).toInt ∧ (h526.1 96 12).toInt ≤ 3 := hI.1 96 12
                      have b543 : (0 : Int) ≤ (h526.1 96 8).toInt ∧ (h526.1 96 8).toInt ≤ 500 := hI.1 96 8
                      show RUN d_X9_readNext 134 [(2, .inl x521), (1, .inl 0), (0, .inr (.inr (.inl 96)))] [.inl x534, .inl x521, .inr (.inr (.inl 102))] h526 _
                      refine K_iast (a := x521.toInt) (lo := 0) (hi' := 6) rfl sh_102 rfl ⟨by omega, by omega⟩ hI (by decide) (bnd_hp (by omega)) (by omega) fr (by decide) (fun h544 g545 hI fr => ?_)
                      have s546 : (h544.1 102 0).toInt = (h526.1 102 0).toInt := by rw [g545, wI_at (i := 0) (nepl (x := x521) (c := 0) (by omega))]
                      have s547 : (h544.1 102 5).toInt = (h526.1 102 5).toInt := by rw [g545, wI_at (i := 5) (nepl (x := x521) (c := 5) (by omega))]
                      have s548 : (h544.1 102 6).toInt = (h526.1 102 6).toInt := by rw [g545, wI_at (i := 6) (nepl (x := x521) (c := 6) (by omega))]
                      have s549 : (h544.1 102 9).toInt = (h526.1 102 9).toInt := by rw [g545, wI_at (i := 9) (nepl (x := x521) (c := 9) (by omega))]
                      have s550 : (h544.1 102 10).toInt = (h526.1 102 10).toInt := by rw [g545, wI_at (i := 10) (nepl (x := x521) (c := 10) (by omega))]
                      have s551 : (h544.1 96 7).toInt = (h526.1 96 7).toInt := by rw [g545, wI_ne _ _ _ (by decide)]
                      have s552 : (h544.1 96 5).toInt = (h526.1 96 5).toInt := by rw [g545, wI_ne _ _ _ (by decide)]
                      have s553 : (h544.1 96 12).toInt = (h526.1 96 12).toInt := by rw [g545, wI_ne _ _ _ (by decide)]
                      have s554 : (h544.1 96 8).toInt = (h526.1 96 8).toInt := by rw [g545, wI_ne _ _ _ (by decide)]
                      refine R_aload_n (k := 0) rfl rfl rfl ?_
                      refine R_getf_r (j := 14) rfl ft_9_31 sh_96 rfl ?_
                      refine R_iload_n (k := 2) rfl rfl rfl ?_
                      refine R_iconst 1 rfl rfl ?_
                      refine N_iadd (a := x521.toInt) (b := 1) rfl rfl (by decide) (by omega) (fun x555 q556 => ?_)
                      refine R_aload_n (k := 0) rfl rfl rfl ?_
                      refine R_ldc_s (i := 8) rfl kt_9_235 ?_
                      refine R_iconst 0 rfl rfl ?_
                      refine R_bipush 9 rfl rfl ?_
                      have k557 : (0 : Int32).toInt = 0 := by decide
                      have k558 : (9 : Int32).toInt = 9 := by decide
                      refine R_callV (v := .inr (.inr (.inl 96))) (As := [.inr (.inr (.inr 9)), .inl 0, .inl 9]) (rest := [.inl x555, .inr (.inr (.inl 102))]) rfl mt_9_i213 pp_X9_told (by decide) rfl rfl rfl (Nat.le_of_ble_eq_true rfl) (Nat.le_of_ble_eq_true rfl) ((g_X9_told_1 h544 hI (0 : Int32) (9 : Int32) (by decide) (by decide)).mono (fun r559 h560 p561 => ?_))
                      obtain ⟨hJ, fj, ⟨kp562, kp563, xq564, xq565, -⟩, x568, rfl, q569, zq566, zq567, -⟩ := p561
                      have f570 := fj
                      have fr := fr.trans fj (by decide)
                      have hI := hJ
                      have s571 : (h560.1 102 0).toInt = (h544.1 102 0).toInt := by rw [(f570 102 (by decide)).1]
                      have s572 : (h560.1 102 5).toInt = (h544.1 102 5).toInt := by rw [(f570 102 (by decide)).1]
                      have s573 : (h560.1 102 6).toInt = (h544.1 102 6).toInt := by rw [(f570 102 (by decide)).1]
                      have s574 : (h560.1 102 9).toInt = (h544.1 102 9).toInt := by rw [(f570 102 (by decide)).1]
                      have s575 : (h560.1 102 10).toInt = (h544.1 102 10).toInt := by rw [(f570 102 (by decide)).1]
                      have b576 : (0 : Int) ≤ (h560.1 96 12).toInt ∧ (h560.1 96 12).toInt ≤ 3 := hI.1 96 12
                      have b577 : (0 : Int) ≤ (h560.1 96 8).toInt ∧ (h560.1 96 8).toInt ≤ 500 := hI.1 96 8
                      show RUN d_X9_readNext 151 [(2, .inl x521), (1, .inl 0), (0, .inr (.inr (.inl 96)))] [.inl x568, .inl x555, .inr (.inr (.inl 102))] h560 _
                      refine K_iast (a := x555.toInt) (lo := (-2147483648)) (hi' := 2147483647) rfl sh_102 rfl ⟨by omega, by omega⟩ hI (by decide) (bnd_he (by omega)) (i_rng _) fr (by decide) (fun h578 g579 hI fr => ?_)
                      have s580 : (h578.1 102 0).toInt = (h560.1 102 0).toInt := by rw [g579, wI_at (i := 0) (nepl (x := x555) (c := 0) (by omega))]
                      have s581 : (h578.1 102 5).toInt = (h560.1 102 5).toInt := by rw [g579, wI_at (i := 5) (nepl (x := x555) (c := 5) (by omega))]
                      have s582 : (h578.1 102 6).toInt = (h560.1 102 6).toInt := by rw [g579, wI_at (i := 6) (nepl (x := x555) (c := 6) (by omega))]
                      have s583 : (h578.1 102 9).toInt = (h560.1 102 9).toInt := by rw [g579, wI_at (i := 9) (nepl (x := x555) (c := 9) (by omega))]
                      have s584 : (h578.1 102 10).toInt = (h560.1 102 10).toInt := by rw [g579, wI_at (i := 10) (nepl (x := x555) (c := 10) (by omega))]
                      have s585 : (h578.1 96 7).toInt = (h560.1 96 7).toInt := by rw [g579, wI_ne _ _ _ (by decide)]
                      have s586 : (h578.1 96 5).toInt = (h560.1 96 5).toInt := by rw [g579, wI_ne _ _ _ (by decide)]
                      have s587 : (h578.1 96 12).toInt = (h560.1 96 12).toInt := by rw [g579, wI_ne _ _ _ (by decide)]
                      have s588 : (h578.1 96 8).toInt = (h560.1 96 8).toInt := by rw [g579, wI_ne _ _ _ (by decide)]
                      refine R_aload_n (k := 0) rfl rfl rfl ?_
                      refine R_getf_r (j := 14) rfl ft_9_31 sh_96 rfl ?_
                      refine R_iconst 5 rfl rfl ?_
                      refine R_dup2 rfl ?_
                      refine R_iald rfl sh_102 (by decide) ?_
                      show RUN d_X9_readNext 159 [(2, .inl x521), (1, .inl 0), (0, .inr (.inr (.inl 96)))] [.inl (h578.1 102 5), .inl 5, .inr (.inr (.inl 102))] h578 _
                      refine R_iconst 1 rfl rfl ?_
                      refine N_iadd (a := (h578.1 102 5).toInt) (b := 1) rfl rfl (by decide) (by omega) (fun x589 q590 => ?_)
                      refine K_iast (a := 5) (lo := 0) (hi' := 6) rfl sh_102 (by decide) (by decide) hI (by decide) rfl (by omega) fr (by decide) (fun h591 g592 hI fr => ?_)
                      have s593 : (h591.1 102 0).toInt = (h578.1 102 0).toInt := by rw [g592, show (5 : Int32).toNatClampNeg = 5 from rfl, wI_at (by decide)]
                      have s594 : (h591.1 102 6).toInt = (h578.1 102 6).toInt := by rw [g592, show (5 : Int32).toNatClampNeg = 5 from rfl, wI_at (by decide)]
                      have s595 : (h591.1 102 9).toInt = (h578.1 102 9).toInt := by rw [g592, show (5 : Int32).toNatClampNeg = 5 from rfl, wI_at (by decide)]
                      have s596 : (h591.1 102 10).toInt = (h578.1 102 10).toInt := by rw [g592, show (5 : Int32).toNatClampNeg = 5 from rfl, wI_at (by decide)]
                      have s597 : (h591.1 96 7).toInt = (h578.1 96 7).toInt := by rw [g592, wI_ne _ _ _ (by decide)]
                      have s598 : (h591.1 96 5).toInt = (h578.1 96 5).toInt := by rw [g592, wI_ne _ _ _ (by decide)]
                      have s599 : (h591.1 96 12).toInt = (h578.1 96 12).toInt := by rw [g592, wI_ne _ _ _ (by decide)]
                      have s600 : (h591.1 96 8).toInt = (h578.1 96 8).toInt := by rw [g592, wI_ne _ _ _ (by decide)]
                      have s601 : (h591.1 102 5).toInt = x589.toInt := by rw [g592, show (5 : Int32).toNatClampNeg = 5 from rfl, wI_is]
                      refine R_goto 236 rfl rfl ?_
                      exact R_vret rfl rfl ⟨hI, fr, ⟨by omega, by omega, by omega, by omega, by omega, by omega, by omega, trivial⟩, rfl⟩
                  · exfalso; omega
              · exfalso; omega
        · refine R_aload_n (k := 0) rfl rfl rfl ?_
          refine R_ldc_s (i := 11) rfl kt_9_231 ?_
          refine R_callV (v := .inr (.inr (.inl 96))) (As := [.inr (.inr (.inr 12))]) (rest := []) rfl mt_9_i188 pp_X9_is (by decide) rfl rfl rfl (Nat.le_of_ble_eq_true rfl) (Nat.le_of_ble_eq_true rfl) ((CALL_ans (g_X9_is_7 h hI)).mono (fun r602 h603 p604 => ?_))
          obtain ⟨⟨rfl, x605, rfl, q606⟩, za607⟩ := p604
          have za607 := za607 _ rfl
          show RUN d_X9_readNext 43 [(1, .inl 0), (0, .inr (.inr (.inl 96)))] [.inl x605] h _
          refine N_if_ne (a := x605.toInt) 51 rfl rfl rfl (fun c608 => ?_) (fun c608 => ?_)
          · refine R_aload_n (k := 0) rfl rfl rfl ?_
            refine R_ldc_s (i := 6) rfl kt_9_229 ?_
            refine R_callV (v := .inr (.inr (.inl 96))) (As := [.inr (.inr (.inr 7))]) (rest := []) rfl mt_9_i188 pp_X9_is (by decide) rfl rfl rfl (Nat.le_of_ble_eq_true rfl) (Nat.le_of_ble_eq_true rfl) ((CALL_ans (g_X9_is_1 h hI)).mono (fun r609 h610 p611 => ?_))
            obtain ⟨⟨rfl, x612, rfl, q613⟩, za614⟩ := p611
            have za614 := za614 _ rfl
            show RUN d_X9_readNext 57 [(1, .inl 0), (0, .inr (.inr (.inl 96)))] [.inl x612] h _
            refine N_if_eq (a := x612.toInt) 71 rfl rfl rfl (fun c615 => ?_) (fun c615 => ?_)
            · refine R_iload_n (k := 1) rfl rfl rfl ?_
              refine N_if_eq (a := 0) 91 rfl rfl (by decide) (fun c616 => ?_) (fun c616 => ?_)
              · refine R_aload_n (k := 0) rfl rfl rfl ?_
                refine R_callV (v := .inr (.inr (.inl 96))) (As := []) (rest := []) rfl mt_9_i176 pp_X9_good (by decide) rfl rfl rfl (Nat.le_of_ble_eq_true rfl) (Nat.le_of_ble_eq_true rfl) ((k_X9_good h hI).mono (fun r617 h618 p619 => ?_))
                obtain ⟨rfl, x620, rfl, q621 | q621⟩ := p619
                · show RUN d_X9_readNext 95 [(1, .inl 0), (0, .inr (.inr (.inl 96)))] [.inl x620] h _
                  refine N_if_ne (a := x620.toInt) 99 rfl rfl rfl (fun c622 => ?_) (fun c622 => ?_)
                  · exfalso; omega
                  · exact R_vret rfl rfl ⟨hI, fr, ⟨by omega, by omega, by omega, by omega, by omega, by omega, by omega, trivial⟩, rfl⟩
                · show RUN d_X9_readNext 95 [(1, .inl 0), (0, .inr (.inr (.inl 96)))] [.inl x620] h _
                  refine N_if_ne (a := x620.toInt) 99 rfl rfl rfl (fun c623 => ?_) (fun c623 => ?_)
                  · refine R_aload_n (k := 0) rfl rfl rfl ?_
                    refine R_ldc_s (i := 6) rfl kt_9_229 ?_
                    refine R_callV (v := .inr (.inr (.inl 96))) (As := [.inr (.inr (.inr 7))]) (rest := []) rfl mt_9_i195 pp_X9_takes (by decide) rfl rfl rfl (Nat.le_of_ble_eq_true rfl) (Nat.le_of_ble_eq_true rfl) ((g_X9_takes h hI).mono (fun r624 h625 p626 => ?_))
                    obtain ⟨hJ, fj, ⟨kp627, kp628, kp629, kp630, xq631, xq632, -⟩, x635, rfl, q636, zq633, zq634, -⟩ := p626
                    have f637 := fj
                    have fr := fr.trans fj (by decide)
                    have hI := hJ
                    have s638 : (h625.1 102 0).toInt = (h.1 102 0).toInt := by rw [(f637 102 (by decide)).1]
                    have s639 : (h625.1 102 5).toInt = (h.1 102 5).toInt := by rw [(f637 102 (by decide)).1]
                    have s640 : (h625.1 102 6).toInt = (h.1 102 6).toInt := by rw [(f637 102 (by decide)).1]
                    have s641 : (h625.1 102 9).toInt = (h.1 102 9).toInt := by rw [(f637 102 (by decide)).1]
                    have s642 : (h625.1 102 10).toInt = (h.1 102 10).toInt := by rw [(f637 102 (by decide)).1]
                    have b643 : (0 : Int) ≤ (h625.1 96 8).toInt ∧ (h625.1 96 8).toInt ≤ 500 := hI.1 96 8
                    show RUN d_X9_readNext 105 [(1, .inl 0), (0, .inr (.inr (.inl 96)))] [.inl x635] h625 _
                    have tq644 : x635.toInt = x612.toInt := by rw [zq633, ← za614]
                    refine N_if_eq (a := x635.toInt) 165 rfl rfl rfl (fun c645 => ?_) (fun c645 => ?_)
                    · refine R_aload_n (k := 0) rfl rfl rfl ?_
                      refine R_ldc_s (i := 9) rfl kt_9_225 ?_
                      refine R_callV (v := .inr (.inr (.inl 96))) (As := [.inr (.inr (.inr 10))]) (rest := []) rfl mt_9_i195 pp_X9_takes (by decide) rfl rfl rfl (Nat.le_of_ble_eq_true rfl) (Nat.le_of_ble_eq_true rfl) ((g_X9_takes_1 h625 hI).mono (fun r646 h647 p648 => ?_))
                      obtain ⟨hJ, fj, ⟨kp649, kp650, kp651, kp652, xq653, xq654, -⟩, x657, rfl, q658, zq655, zq656, -⟩ := p648
                      have f659 := fj
                      have fr := fr.trans fj (by decide)
                      have hI := hJ
                      have s660 : (h647.1 102 0).toInt = (h625.1 102 0).toInt := by rw [(f659 102 (by decide)).1]
                      have s661 : (h647.1 102 5).toInt = (h625.1 102 5).toInt := by rw [(f659 102 (by decide)).1]
                      have s662 : (h647.1 102 6).toInt = (h625.1 102 6).toInt := by rw [(f659 102 (by decide)).1]
                      have s663 : (h647.1 102 9).toInt = (h625.1 102 9).toInt := by rw [(f659 102 (by decide)).1]
                      have s664 : (h647.1 102 10).toInt = (h625.1 102 10).toInt := by rw [(f659 102 (by decide)).1]
                      have b665 : (0 : Int) ≤ (h647.1 96 8).toInt ∧ (h647.1 96 8).toInt ≤ 500 := hI.1 96 8
                      show RUN d_X9_readNext 171 [(1, .inl 0), (0, .inr (.inr (.inl 96)))] [.inl x657] h647 _
                      have tq666 : x657.toInt = x12.toInt := by rw [zq655, zq634 (by omega), ← za14]
                      refine N_if_eq (a := x657.toInt) 182 rfl rfl rfl (fun c667 => ?_) (fun c667 => ?_)
                      · refine R_aload_n (k := 0) rfl rfl rfl ?_
                        refine R_ldc_s (i := 10) rfl kt_9_227 ?_
                        refine R_callV (v := .inr (.inr (.inl 96))) (As := [.inr (.inr (.inr 11))]) (rest := []) rfl mt_9_i195 pp_X9_takes (by decide) rfl rfl rfl (Nat.le_of_ble_eq_true rfl) (Nat.le_of_ble_eq_true rfl) ((g_X9_takes_4 h647 hI).mono (fun r668 h669 p670 => ?_))
                        obtain ⟨hJ, fj, ⟨kp671, kp672, kp673, kp674, xq675, xq676, -⟩, x679, rfl, q680, zq677, zq678, -⟩ := p670
                        have f681 := fj
                        have fr := fr.trans fj (by decide)
                        have hI := hJ
                        have s682 : (h669.1 102 0).toInt = (h647.1 102 0).toInt := by rw [(f681 102 (by decide)).1]
                        have s683 : (h669.1 102 5).toInt = (h647.1 102 5).toInt := by rw [(f681 102 (by decide)).1]
                        have s684 : (h669.1 102 6).toInt = (h647.1 102 6).toInt := by rw [(f681 102 (by decide)).1]
                        have s685 : (h669.1 102 9).toInt = (h647.1 102 9).toInt := by rw [(f681 102 (by decide)).1]
                        have s686 : (h669.1 102 10).toInt = (h647.1 102 10).toInt := by rw [(f681 102 (by decide)).1]
                        have b687 : (0 : Int) ≤ (h669.1 96 8).toInt ∧ (h669.1 96 8).toInt ≤ 500 := hI.1 96 8
                        show RUN d_X9_readNext 188 [(1, .inl 0), (0, .inr (.inr (.inl 96)))] [.inl x679] h669 _
                        have tq688 : x679.toInt = x286.toInt := by rw [zq677, zq656 (by omega), zq634 (by omega), ← za288]
                        refine N_if_eq (a := x679.toInt) 199 rfl rfl rfl (fun c689 => ?_) (fun c689 => ?_)
                        · refine R_aload_n (k := 0) rfl rfl rfl ?_
                          refine R_callV (v := .inr (.inr (.inl 96))) (As := []) (rest := []) rfl mt_9_i192 pp_X9_advance (by decide) rfl rfl rfl (Nat.le_of_ble_eq_true rfl) (Nat.le_of_ble_eq_true rfl) ((g_X9_advance h669 hI).mono (fun r690 h691 p692 => ?_))
                          obtain ⟨hJ, fj, ⟨kp693, kp694, kp695, kp696, xq697, xq698, -⟩, rfl⟩ := p692
                          have f699 := fj
                          have fr := fr.trans fj (by decide)
                          have hI := hJ
                          have s700 : (h691.1 102 0).toInt = (h669.1 102 0).toInt := by rw [(f699 102 (by decide)).1]
                          have s701 : (h691.1 102 5).toInt = (h669.1 102 5).toInt := by rw [(f699 102 (by decide)).1]
                          have s702 : (h691.1 102 6).toInt = (h669.1 102 6).toInt := by rw [(f699 102 (by decide)).1]
                          have s703 : (h691.1 102 9).toInt = (h669.1 102 9).toInt := by rw [(f699 102 (by decide)).1]
                          have s704 : (h691.1 102 10).toInt = (h669.1 102 10).toInt := by rw [(f699 102 (by decide)).1]
                          have b705 : (0 : Int) ≤ (h691.1 96 8).toInt ∧ (h691.1 96 8).toInt ≤ 500 := hI.1 96 8
                          show RUN d_X9_readNext 203 [(1, .inl 0), (0, .inr (.inr (.inl 96)))] [] h691 _
                          refine R_aload_n (k := 0) rfl rfl rfl ?_
                          refine R_getf_r (j := 14) rfl ft_9_31 sh_96 rfl ?_
                          refine R_bipush 7 rfl rfl ?_
                          refine R_aload_n (k := 0) rfl rfl rfl ?_
                          refine R_ldc_s (i := 12) rfl kt_9_240 ?_
                          refine R_iconst 1 rfl rfl ?_
                          refine R_sipush 999 rfl rfl ?_
                          have k706 : (1 : Int32).toInt = 1 := by decide
                          have k707 : (999 : Int32).toInt = 999 := by decide
                          refine R_callV (v := .inr (.inr (.inl 96))) (As := [.inr (.inr (.inr 13)), .inl 1, .inl 999]) (rest := [.inl 7, .inr (.inr (.inl 102))]) rfl mt_9_i213 pp_X9_told (by decide) rfl rfl rfl (Nat.le_of_ble_eq_true rfl) (Nat.le_of_ble_eq_true rfl) ((g_X9_told_2 h691 hI (1 : Int32) (999 : Int32) (by decide) (by decide)).mono (fun r708 h709 p710 => ?_))
                          obtain ⟨hJ, fj, ⟨kp711, kp712, xq713, xq714, -⟩, x717, rfl, q718, zq715, zq716, -⟩ := p710
                          have f719 := fj
                          have fr := fr.trans fj (by decide)
                          have hI := hJ
                          have s720 : (h709.1 102 0).toInt = (h691.1 102 0).toInt := by rw [(f719 102 (by decide)).1]
                          have s721 : (h709.1 102 5).toInt = (h691.1 102 5).toInt := by rw [(f719 102 (by decide)).1]
                          have s722 : (h709.1 102 6).toInt = (h691.1 102 6).toInt := by rw [(f719 102 (by decide)).1]
                          have s723 : (h709.1 102 9).toInt = (h691.1 102 9).toInt := by rw [(f719 102 (by decide)).1]
                          have s724 : (h709.1 102 10).toInt = (h691.1 102 10).toInt := by rw [(f719 102 (by decide)).1]
                          have b725 : (0 : Int) ≤ (h709.1 96 12).toInt ∧ (h709.1 96 12).toInt ≤ 3 := hI.1 96 12
                          have b726 : (0 : Int) ≤ (h709.1 96 8).toInt ∧ (h709.1 96 8).toInt ≤ 500 := hI.1 96 8
                          show RUN d_X9_readNext 219 [(1, .inl 0), (0, .inr (.inr (.inl 96)))] [.inl x717, .inl 7, .inr (.inr (.inl 102))] h709 _
                          refine K_iast (a := 7) (lo := (-2147483648)) (hi' := 2147483647) rfl sh_102 (by decide) (by decide) hI (by decide) rfl (i_rng _) fr (by decide) (fun h727 g728 hI fr => ?_)
                          have s729 : (h727.1 102 0).toInt = (h709.1 102 0).toInt := by rw [g728, show (7 : Int32).toNatClampNeg = 7 from rfl, wI_at (by decide)]
                          have s730 : (h727.1 102 5).toInt = (h709.1 102 5).toInt := by rw [g728, show (7 : Int32).toNatClampNeg = 7 from rfl, wI_at (by decide)]
                          have s731 : (h727.1 102 6).toInt = (h709.1 102 6).toInt := by rw [g728, show (7 : Int32).toNatClampNeg = 7 from rfl, wI_at (by decide)]
                          have s732 : (h727.1 102 9).toInt = (h709.1 102 9).toInt := by rw [g728, show (7 : Int32).toNatClampNeg = 7 from rfl, wI_at (by decide)]
                          have s733 : (h727.1 102 10).toInt = (h709.1 102 10).toInt := by rw [g728, show (7 : Int32).toNatClampNeg = 7 from rfl, wI_at (by decide)]
                          have s734 : (h727.1 96 7).toInt = (h709.1 96 7).toInt := by rw [g728, wI_ne _ _ _ (by decide)]
                          have s735 : (h727.1 96 5).toInt = (h709.1 96 5).toInt := by rw [g728, wI_ne _ _ _ (by decide)]
                          have s736 : (h727.1 96 12).toInt = (h709.1 96 12).toInt := by rw [g728, wI_ne _ _ _ (by decide)]
                          have s737 : (h727.1 96 8).toInt = (h709.1 96 8).toInt := by rw [g728, wI_ne _ _ _ (by decide)]
                          have s738 : (h727.1 102 7).toInt = x717.toInt := by rw [g728, show (7 : Int32).toNatClampNeg = 7 from rfl, wI_is]
                          refine R_aload_n (k := 0) rfl rfl rfl ?_
                          refine R_getf_r (j := 14) rfl ft_9_31 sh_96 rfl ?_
                          refine R_bipush 8 rfl rfl ?_
                          refine R_aload_n (k := 0) rfl rfl rfl ?_
                          refine R_ldc_s (i := 13) rfl kt_9_242 ?_
                          refine R_iconst 0 rfl rfl ?_
                          refine R_bipush 9 rfl rfl ?_
                          have k739 : (0 : Int32).toInt = 0 := by decide
                          have k740 : (9 : Int32).toInt = 9 := by decide
                          refine R_callV (v := .inr (.inr (.inl 96))) (As := [.inr (.inr (.inr 14)), .inl 0, .inl 9]) (rest := [.inl 8, .inr (.inr (.inl 102))]) rfl mt_9_i213 pp_X9_told (by decide) rfl rfl rfl (Nat.le_of_ble_eq_true rfl) (Nat.le_of_ble_eq_true rfl) ((g_X9_told_3 h727 hI (0 : Int32) (9 : Int32) (by decide) (by decide)).mono (fun r741 h742 p743 => ?_))
                          obtain ⟨hJ, fj, ⟨kp744, kp745, xq746, xq747, -⟩, x750, rfl, q751, zq748, zq749, -⟩ := p743
                          have f752 := fj
                          have fr := fr.trans fj (by decide)
                          have hI := hJ
                          have s753 : (h742.1 102 0).toInt = (h727.1 102 0).toInt := by rw [(f752 102 (by decide)).1]
                          have s754 : (h742.1 102 5).toInt = (h727.1 102 5).toInt := by rw [(f752 102 (by decide)).1]
                          have s755 : (h742.1 102 6).toInt = (h727.1 102 6).toInt := by rw [(f752 102 (by decide)).1]
                          have s756 : (h742.1 102 9).toInt = (h727.1 102 9).toInt := by rw [(f752 102 (by decide)).1]
                          have s757 : (h742.1 102 10).toInt = (h727.1 102 10).toInt := by rw [(f752 102 (by decide)).1]
                          have s758 : (h742.1 102 7).toInt = (h727.1 102 7).toInt := by rw [(f752 102 (by decide)).1]
                          have b759 : (0 : Int) ≤ (h742.1 96 12).toInt ∧ (h742.1 96 12).toInt ≤ 3 := hI.1 96 12
                          have b760 : (0 : Int) ≤ (h742.1 96 8).toInt ∧ (h742.1 96 8).toInt ≤ 500 := hI.1 96 8
                          show RUN d_X9_readNext 235 [(1, .inl 0), (0, .inr (.inr (.inl 96)))] [.inl x750, .inl 8, .inr (.inr (.inl 102))] h742 _
                          refine K_iast (a := 8) (lo := (-2147483648)) (hi' := 2147483647) rfl sh_102 (by decide) (by decide) hI (by decide) rfl (i_rng _) fr (by decide) (fun h761 g762 hI fr => ?_)
                          have s763 : (h761.1 102 0).toInt = (h742.1 102 0).toInt := by rw [g762, show (8 : Int32).toNatClampNeg = 8 from rfl, wI_at (by decide)]
                          have s764 : (h761.1 102 5).toInt = (h742.1 102 5).toInt := by rw [g762, show (8 : Int32).toNatClampNeg = 8 from rfl, wI_at (by decide)]
                          have s765 : (h761.1 102 6).toInt = (h742.1 102 6).toInt := by rw [g762, show (8 : Int32).toNatClampNeg = 8 from rfl, wI_at (by decide)]
                          have s766 : (h761.1 102 9).toInt = (h742.1 102 9).toInt := by rw [g762, show (8 : Int32).toNatClampNeg = 8 from rfl, wI_at (by decide)]
                          have s767 : (h761.1 102 10).toInt = (h742.1 102 10).toInt := by rw [g762, show (8 : Int32).toNatClampNeg = 8 from rfl, wI_at (by decide)]
                          have s768 : (h761.1 96 7).toInt = (h742.1 96 7).toInt := by rw [g762, wI_ne _ _ _ (by decide)]
                          have s769 : (h761.1 96 5).toInt = (h742.1 96 5).toInt := by rw [g762, wI_ne _ _ _ (by decide)]
                          have s770 : (h761.1 102 7).toInt = (h742.1 102 7).toInt := by rw [g762, show (8 : Int32).toNatClampNeg = 8 from rfl, wI_at (by decide)]
                          have s771 : (h761.1 96 12).toInt = (h742.1 96 12).toInt := by rw [g762, wI_ne _ _ _ (by decide)]
                          have s772 : (h761.1 96 8).toInt = (h742.1 96 8).toInt := by rw [g762, wI_ne _ _ _ (by decide)]
                          have s773 : (h761.1 102 8).toInt = x750.toInt := by rw [g762, show (8 : Int32).toNatClampNeg = 8 from rfl, wI_is]
                          exact R_vret rfl rfl ⟨hI, fr, ⟨by omega, by omega, by omega, by omega, by omega, by omega, by omega, trivial⟩, rfl⟩
                        · exfalso; omega
                      · exfalso; omega
                    · exfalso; omega
                  · exfalso; omega
              · exfalso; omega
            · refine R_aload_n (k := 0) rfl rfl rfl ?_
              refine R_getf_r (j := 14) rfl ft_9_31 sh_96 rfl ?_
              refine R_iconst 5 rfl rfl ?_
              refine R_iald rfl sh_102 (by decide) ?_
              show RUN d_X9_readNext 66 [(1, .inl 0), (0, .inr (.inr (.inl 96)))] [.inl (h.1 102 5)] h _
              refine R_bipush 6 rfl rfl ?_
              refine N_icmp_eq (a := (h.1 102 5).toInt) (b := 6) 86 rfl rfl rfl (by decide) (fun c774 => ?_) (fun c774 => ?_)
              · refine R_aload_n (k := 0) rfl rfl rfl ?_
                refine R_iconst 3 rfl rfl ?_
                have k775 : (3 : Int32).toInt = 3 := by decide
                refine R_callV (v := .inr (.inr (.inl 96))) (As := [.inl 3]) (rest := []) rfl mt_9_i198 pp_X9_errs (by decide) rfl rfl rfl (Nat.le_of_ble_eq_true rfl) (Nat.le_of_ble_eq_true rfl) ((g_X9_errs h hI (3 : Int32) (by decide)).mono (fun r776 h777 p778 => ?_))
                obtain ⟨hJ, fj, ⟨kp779, kp780, kp781, kp782, kp783, xq784, xq785, xq786, -⟩, rfl⟩ := p778
                have f787 := fj
                have fr := fr.trans fj (by decide)
                have hI := hJ
                have s788 : (h777.1 102 0).toInt = (h.1 102 0).toInt := by rw [(f787 102 (by decide)).1]
                have s789 : (h777.1 102 5).toInt = (h.1 102 5).toInt := by rw [(f787 102 (by decide)).1]
                have s790 : (h777.1 102 6).toInt = (h.1 102 6).toInt := by rw [(f787 102 (by decide)).1]
                have s791 : (h777.1 102 9).toInt = (h.1 102 9).toInt := by rw [(f787 102 (by decide)).1]
                have s792 : (h777.1 102 10).toInt = (h.1 102 10).toInt := by rw [(f787 102 (by decide)).1]
                have b793 : (0 : Int) ≤ (h777.1 96 12).toInt ∧ (h777.1 96 12).toInt ≤ 3 := hI.1 96 12
                show RUN d_X9_readNext 91 [(1, .inl 0), (0, .inr (.inr (.inl 96)))] [] h777 _
                refine R_aload_n (k := 0) rfl rfl rfl ?_
                refine R_callV (v := .inr (.inr (.inl 96))) (As := []) (rest := []) rfl mt_9_i176 pp_X9_good (by decide) rfl rfl rfl (Nat.le_of_ble_eq_true rfl) (Nat.le_of_ble_eq_true rfl) ((k_X9_good h777 hI).mono (fun r794 h795 p796 => ?_))
                obtain ⟨rfl, x797, rfl, q798 | q798⟩ := p796
                · show RUN d_X9_readNext 95 [(1, .inl 0), (0, .inr (.inr (.inl 96)))] [.inl x797] h777 _
                  refine N_if_ne (a := x797.toInt) 99 rfl rfl rfl (fun c799 => ?_) (fun c799 => ?_)
                  · exfalso; omega
                  · exact R_vret rfl rfl ⟨hI, fr, ⟨by omega, by omega, by omega, by omega, by omega, by omega, by omega, trivial⟩, rfl⟩
                · exfalso; omega
              · refine R_iload_n (k := 1) rfl rfl rfl ?_
                refine N_if_eq (a := 0) 91 rfl rfl (by decide) (fun c800 => ?_) (fun c800 => ?_)
                · refine R_aload_n (k := 0) rfl rfl rfl ?_
                  refine R_callV (v := .inr (.inr (.inl 96))) (As := []) (rest := []) rfl mt_9_i176 pp_X9_good (by decide) rfl rfl rfl (Nat.le_of_ble_eq_true rfl) (Nat.le_of_ble_eq_true rfl) ((k_X9_good h hI).mono (fun r801 h802 p803 => ?_))
                  obtain ⟨rfl, x804, rfl, q805 | q805⟩ := p803
                  · show RUN d_X9_readNext 95 [(1, .inl 0), (0, .inr (.inr (.inl 96)))] [.inl x804] h _
                    refine N_if_ne (a := x804.toInt) 99 rfl rfl rfl (fun c806 => ?_) (fun c806 => ?_)
                    · exfalso; omega
                    · exact R_vret rfl rfl ⟨hI, fr, ⟨by omega, by omega, by omega, by omega, by omega, by omega, by omega, trivial⟩, rfl⟩
                  · show RUN d_X9_readNext 95 [(1, .inl 0), (0, .inr (.inr (.inl 96)))] [.inl x804] h _
                    refine N_if_ne (a := x804.toInt) 99 rfl rfl rfl (fun c807 => ?_) (fun c807 => ?_)
                    · refine R_aload_n (k := 0) rfl rfl rfl ?_
                      refine R_ldc_s (i := 6) rfl kt_9_229 ?_
                      refine R_callV (v := .inr (.inr (.inl 96))) (As := [.inr (.inr (.inr 7))]) (rest := []) rfl mt_9_i195 pp_X9_takes (by decide) rfl rfl rfl (Nat.le_of_ble_eq_true rfl) (Nat.le_of_ble_eq_true rfl) ((g_X9_takes h hI).mono (fun r808 h809 p810 => ?_))
                      obtain ⟨hJ, fj, ⟨kp811, kp812, kp813, kp814, xq815, xq816, -⟩, x819, rfl, q820, zq817, zq818, -⟩ := p810
                      have f821 := fj
                      have fr := fr.trans fj (by decide)
                      have hI := hJ
                      have s822 : (h809.1 102 0).toInt = (h.1 102 0).toInt := by rw [(f821 102 (by decide)).1]
                      have s823 : (h809.1 102 5).toInt = (h.1 102 5).toInt := by rw [(f821 102 (by decide)).1]
                      have s824 : (h809.1 102 6).toInt = (h.1 102 6).toInt := by rw [(f821 102 (by decide)).1]
                      have s825 : (h809.1 102 9).toInt = (h.1 102 9).toInt := by rw [(f821 102 (by decide)).1]
                      have s826 : (h809.1 102 10).toInt = (h.1 102 10).toInt := by rw [(f821 102 (by decide)).1]
                      have b827 : (0 : Int) ≤ (h809.1 96 8).toInt ∧ (h809.1 96 8).toInt ≤ 500 := hI.1 96 8
                      show RUN d_X9_readNext 105 [(1, .inl 0), (0, .inr (.inr (.inl 96)))] [.inl x819] h809 _
                      have tq828 : x819.toInt = x612.toInt := by rw [zq817, ← za614]
                      refine N_if_eq (a := x819.toInt) 165 rfl rfl rfl (fun c829 => ?_) (fun c829 => ?_)
                      · exfalso; omega
                      · refine R_bipush 11 rfl rfl ?_
                        refine R_iconst 2 rfl rfl ?_
                        refine R_aload_n (k := 0) rfl rfl rfl ?_
                        refine R_getf_r (j := 14) rfl ft_9_31 sh_96 rfl ?_
                        refine R_iconst 5 rfl rfl ?_
                        refine R_iald rfl sh_102 (by decide) ?_
                        show RUN d_X9_readNext 117 [(1, .inl 0), (0, .inr (.inr (.inl 96)))] [.inl (h809.1 102 5), .inl 2, .inl 11] h809 _
                        refine N_imul (a := 2) (b := (h809.1 102 5).toInt) rfl (by decide) rfl (by omega) (fun x830 q831 => ?_)
                        refine N_iadd (a := 11) (b := x830.toInt) rfl (by decide) rfl (by omega) (fun x832 q833 => ?_)
                        refine R_istore_n (k := 2) rfl [(2, .inl x832), (1, .inl 0), (0, .inr (.inr (.inl 96)))] rfl rfl (by decide) ?_
                        refine R_aload_n (k := 0) rfl rfl rfl ?_
                        refine R_getf_r (j := 14) rfl ft_9_31 sh_96 rfl ?_
                        refine R_iload_n (k := 2) rfl rfl rfl ?_
                        refine R_aload_n (k := 0) rfl rfl rfl ?_
                        refine R_ldc_s (i := 7) rfl kt_9_233 ?_
                        refine R_iconst 1 rfl rfl ?_
                        refine R_bipush 6 rfl rfl ?_
                        have k834 : (1 : Int32).toInt = 1 := by decide
                        have k835 : (6 : Int32).toInt = 6 := by decide
                        refine R_callV (v := .inr (.inr (.inl 96))) (As := [.inr (.inr (.inr 8)), .inl 1, .inl 6]) (rest := [.inl x832, .inr (.inr (.inl 102))]) rfl mt_9_i213 pp_X9_told (by decide) rfl rfl rfl (Nat.le_of_ble_eq_true rfl) (Nat.le_of_ble_eq_true rfl) ((g_X9_told h809 hI (1 : Int32) (6 : Int32) (by decide) (by decide)).mono (fun r836 h837 p838 => ?_))
                        obtain ⟨hJ, fj, ⟨kp839, kp840, xq841, xq842, -⟩, x845, rfl, q846, zq843, zq844, -⟩ := p838
                        have f847 := fj
                        have fr := fr.trans fj (by decide)
                        have hI := hJ
                        have s848 : (h837.1 102 0).toInt = (h809.1 102 0).toInt := by rw [(f847 102 (by decide)).1]
                        have s849 : (h837.1 102 5).toInt = (h809.1 102 5).toInt := by rw [(f847 102 (by decide)).1]
                        have s850 : (h837.1 102 6).toInt = (h809.1 102 6).toInt := by rw [(f847 102 (by decide)).1]
                        have s851 : (h837.1 102 9).toInt = (h809.1 102 9).toInt := by rw [(f847 102 (by decide)).1]
                        have s852 : (h837.1 102 10).toInt = (h809.1 102 10).toInt := by rw [(f847 102 (by decide)).1]
                        have b853 : (0 : Int) ≤ (h837.1 96 12).toInt ∧ (h837.1 96 12).toInt ≤ 3 := hI.1 96 12
                        have b854 : (0 : Int) ≤ (h837.1 96 8).toInt ∧ (h837.1 96 8).toInt ≤ 500 := hI.1 96 8
                        show RUN d_X9_readNext 134 [(2, .inl x832), (1, .inl 0), (0, .inr (.inr (.inl 96)))] [.inl x845, .inl x832, .inr (.inr (.inl 102))] h837 _
                        refine K_iast (a := x832.toInt) (lo := 0) (hi' := 6) rfl sh_102 rfl ⟨by omega, by omega⟩ hI (by decide) (bnd_hp (by omega)) (by omega) fr (by decide) (fun h855 g856 hI fr => ?_)
                        have s857 : (h855.1 102 0).toInt = (h837.1 102 0).toInt := by rw [g856, wI_at (i := 0) (nepl (x := x832) (c := 0) (by omega))]
                        have s858 : (h855.1 102 5).toInt = (h837.1 102 5).toInt := by rw [g856, wI_at (i := 5) (nepl (x := x832) (c := 5) (by omega))]
                        have s859 : (h855.1 102 6).toInt = (h837.1 102 6).toInt := by rw [g856, wI_at (i := 6) (nepl (x := x832) (c := 6) (by omega))]
                        have s860 : (h855.1 102 9).toInt = (h837.1 102 9).toInt := by rw [g856, wI_at (i := 9) (nepl (x := x832) (c := 9) (by omega))]
                        have s861 : (h855.1 102 10).toInt = (h837.1 102 10).toInt := by rw [g856, wI_at (i := 10) (nepl (x := x832) (c := 10) (by omega))]
                        have s862 : (h855.1 96 7).toInt = (h837.1 96 7).toInt := by rw [g856, wI_ne _ _ _ (by decide)]
                        have s863 : (h855.1 96 5).toInt = (h837.1 96 5).toInt := by rw [g856, wI_ne _ _ _ (by decide)]
                        have s864 : (h855.1 96 12).toInt = (h837.1 96 12).toInt := by rw [g856, wI_ne _ _ _ (by decide)]
                        have s865 : (h855.1 96 8).toInt = (h837.1 96 8).toInt := by rw [g856, wI_ne _ _ _ (by decide)]
                        refine R_aload_n (k := 0) rfl rfl rfl ?_
                        refine R_getf_r (j := 14) rfl ft_9_31 sh_96 rfl ?_
                        refine R_iload_n (k := 2) rfl rfl rfl ?_
                        refine R_iconst 1 rfl rfl ?_
                        refine N_iadd (a := x832.toInt) (b := 1) rfl rfl (by decide) (by omega) (fun x866 q867 => ?_)
                        refine R_aload_n (k := 0) rfl rfl rfl ?_
                        refine R_ldc_s (i := 8) rfl kt_9_235 ?_
                        refine R_iconst 0 rfl rfl ?_
                        refine R_bipush 9 rfl rfl ?_
                        have k868 : (0 : Int32).toInt = 0 := by decide
                        have k869 : (9 : Int32).toInt = 9 := by decide
                        refine R_callV (v := .inr (.inr (.inl 96))) (As := [.inr (.inr (.inr 9)), .inl 0, .inl 9]) (rest := [.inl x866, .inr (.inr (.inl 102))]) rfl mt_9_i213 pp_X9_told (by decide) rfl rfl rfl (Nat.le_of_ble_eq_true rfl) (Nat.le_of_ble_eq_true rfl) ((g_X9_told_1 h855 hI (0 : Int32) (9 : Int32) (by decide) (by decide)).mono (fun r870 h871 p872 => ?_))
                        obtain ⟨hJ, fj, ⟨kp873, kp874, xq875, xq876, -⟩, x879, rfl, q880, zq877, zq878, -⟩ := p872
                        have f881 := fj
                        have fr := fr.trans fj (by decide)
                        have hI := hJ
                        have s882 : (h871.1 102 0).toInt = (h855.1 102 0).toInt := by rw [(f881 102 (by decide)).1]
                        have s883 : (h871.1 102 5).toInt = (h855.1 102 5).toInt := by rw [(f881 102 (by decide)).1]
                        have s884 : (h871.1 102 6).toInt = (h855.1 102 6).toInt := by rw [(f881 102 (by decide)).1]
                        have s885 : (h871.1 102 9).toInt = (h855.1 102 9).toInt := by rw [(f881 102 (by decide)).1]
                        have s886 : (h871.1 102 10).toInt = (h855.1 102 10).toInt := by rw [(f881 102 (by decide)).1]
                        have b887 : (0 : Int) ≤ (h871.1 96 12).toInt ∧ (h871.1 96 12).toInt ≤ 3 := hI.1 96 12
                        have b888 : (0 : Int) ≤ (h871.1 96 8).toInt ∧ (h871.1 96 8).toInt ≤ 500 := hI.1 96 8
                        show RUN d_X9_readNext 151 [(2, .inl x832), (1, .inl 0), (0, .inr (.inr (.inl 96)))] [.inl x879, .inl x866, .inr (.inr (.inl 102))] h871 _
                        refine K_iast (a := x866.toInt) (lo := (-2147483648)) (hi' := 2147483647) rfl sh_102 rfl ⟨by omega, by omega⟩ hI (by decide) (bnd_he (by omega)) (i_rng _) fr (by decide) (fun h889 g890 hI fr => ?_)
                        have s891 : (h889.1 102 0).toInt = (h871.1 102 0).toInt := by rw [g890, wI_at (i := 0) (nepl (x := x866) (c := 0) (by omega))]
                        have s892 : (h889.1 102 5).toInt = (h871.1 102 5).toInt := by rw [g890, wI_at (i := 5) (nepl (x := x866) (c := 5) (by omega))]
                        have s893 : (h889.1 102 6).toInt = (h871.1 102 6).toInt := by rw [g890, wI_at (i := 6) (nepl (x := x866) (c := 6) (by omega))]
                        have s894 : (h889.1 102 9).toInt = (h871.1 102 9).toInt := by rw [g890, wI_at (i := 9) (nepl (x := x866) (c := 9) (by omega))]
                        have s895 : (h889.1 102 10).toInt = (h871.1 102 10).toInt := by rw [g890, wI_at (i := 10) (nepl (x := x866) (c := 10) (by omega))]
                        have s896 : (h889.1 96 7).toInt = (h871.1 96 7).toInt := by rw [g890, wI_ne _ _ _ (by decide)]
                        have s897 : (h889.1 96 5).toInt = (h871.1 96 5).toInt := by rw [g890, wI_ne _ _ _ (by decide)]
                        have s898 : (h889.1 96 12).toInt = (h871.1 96 12).toInt := by rw [g890, wI_ne _ _ _ (by decide)]
                        have s899 : (h889.1 96 8).toInt = (h871.1 96 8).toInt := by rw [g890, wI_ne _ _ _ (by decide)]
                        refine R_aload_n (k := 0) rfl rfl rfl ?_
                        refine R_getf_r (j := 14) rfl ft_9_31 sh_96 rfl ?_
                        refine R_iconst 5 rfl rfl ?_
                        refine R_dup2 rfl ?_
                        refine R_iald rfl sh_102 (by decide) ?_
                        show RUN d_X9_readNext 159 [(2, .inl x832), (1, .inl 0), (0, .inr (.inr (.inl 96)))] [.inl (h889.1 102 5), .inl 5, .inr (.inr (.inl 102))] h889 _
                        refine R_iconst 1 rfl rfl ?_
                        refine N_iadd (a := (h889.1 102 5).toInt) (b := 1) rfl rfl (by decide) (by omega) (fun x900 q901 => ?_)
                        refine K_iast (a := 5) (lo := 0) (hi' := 6) rfl sh_102 (by decide) (by decide) hI (by decide) rfl (by omega) fr (by decide) (fun h902 g903 hI fr => ?_)
                        have s904 : (h902.1 102 0).toInt = (h889.1 102 0).toInt := by rw [g903, show (5 : Int32).toNatClampNeg = 5 from rfl, wI_at (by decide)]
                        have s905 : (h902.1 102 6).toInt = (h889.1 102 6).toInt := by rw [g903, show (5 : Int32).toNatClampNeg = 5 from rfl, wI_at (by decide)]
                        have s906 : (h902.1 102 9).toInt = (h889.1 102 9).toInt := by rw [g903, show (5 : Int32).toNatClampNeg = 5 from rfl, wI_at (by decide)]
                        have s907 : (h902.1 102 10).toInt = (h889.1 102 10).toInt := by rw [g903, show (5 : Int32).toNatClampNeg = 5 from rfl, wI_at (by decide)]
                        have s908 : (h902.1 96 7).toInt = (h889.1 96 7).toInt := by rw [g903, wI_ne _ _ _ (by decide)]
                        have s909 : (h902.1 96 5).toInt = (h889.1 96 5).toInt := by rw [g903, wI_ne _ _ _ (by decide)]
                        have s910 : (h902.1 96 12).toInt = (h889.1 96 12).toInt := by rw [g903, wI_ne _ _ _ (by decide)]
                        have s911 : (h902.1 96 8).toInt = (h889.1 96 8).toInt := by rw [g903, wI_ne _ _ _ (by decide)]
                        have s912 : (h902.1 102 5).toInt = x900.toInt := by rw [g903, show (5 : Int32).toNatClampNeg = 5 from rfl, wI_is]
                        refine R_goto 236 rfl rfl ?_
                        exact R_vret rfl rfl ⟨hI, fr, ⟨by omega, by omega, by omega, by omega, by omega, by omega, by omega, trivial⟩, rfl⟩
                    · exfalso; omega
                · exfalso; omega
          · refine R_aload_n (k := 0) rfl rfl rfl ?_
            refine R_iconst 1 rfl rfl ?_
            have k913 : (1 : Int32).toInt = 1 := by decide
            refine R_callV (v := .inr (.inr (.inl 96))) (As := [.inl 1]) (rest := []) rfl mt_9_i198 pp_X9_errs (by decide) rfl rfl rfl (Nat.le_of_ble_eq_true rfl) (Nat.le_of_ble_eq_true rfl) ((g_X9_errs h hI (1 : Int32) (by decide)).mono (fun r914 h915 p916 => ?_))
            obtain ⟨hJ, fj, ⟨kp917, kp918, kp919, kp920, kp921, xq922, xq923, xq924, -⟩, rfl⟩ := p916
            have f925 := fj
            have fr := fr.trans fj (by decide)
            have hI := hJ
            have s926 : (h915.1 102 0).toInt = (h.1 102 0).toInt := by rw [(f925 102 (by decide)).1]
            have s927 : (h915.1 102 5).toInt = (h.1 102 5).toInt := by rw [(f925 102 (by decide)).1]
            have s928 : (h915.1 102 6).toInt = (h.1 102 6).toInt := by rw [(f925 102 (by decide)).1]
            have s929 : (h915.1 102 9).toInt = (h.1 102 9).toInt := by rw [(f925 102 (by decide)).1]
            have s930 : (h915.1 102 10).toInt = (h.1 102 10).toInt := by rw [(f925 102 (by decide)).1]
            have b931 : (0 : Int) ≤ (h915.1 96 12).toInt ∧ (h915.1 96 12).toInt ≤ 3 := hI.1 96 12
            show RUN d_X9_readNext 51 [(1, .inl 0), (0, .inr (.inr (.inl 96)))] [] h915 _
            refine R_aload_n (k := 0) rfl rfl rfl ?_
            refine R_ldc_s (i := 6) rfl kt_9_229 ?_
            refine R_callV (v := .inr (.inr (.inl 96))) (As := [.inr (.inr (.inr 7))]) (rest := []) rfl mt_9_i188 pp_X9_is (by decide) rfl rfl rfl (Nat.le_of_ble_eq_true rfl) (Nat.le_of_ble_eq_true rfl) ((CALL_ans (g_X9_is_1 h915 hI)).mono (fun r932 h933 p934 => ?_))
            obtain ⟨⟨rfl, x935, rfl, q936⟩, za937⟩ := p934
            have za937 := za937 _ rfl
            show RUN d_X9_readNext 57 [(1, .inl 0), (0, .inr (.inr (.inl 96)))] [.inl x935] h915 _
            refine N_if_eq (a := x935.toInt) 71 rfl rfl rfl (fun c938 => ?_) (fun c938 => ?_)
            · refine R_iload_n (k := 1) rfl rfl rfl ?_
              refine N_if_eq (a := 0) 91 rfl rfl (by decide) (fun c939 => ?_) (fun c939 => ?_)
              · refine R_aload_n (k := 0) rfl rfl rfl ?_
                refine R_callV (v := .inr (.inr (.inl 96))) (As := []) (rest := []) rfl mt_9_i176 pp_X9_good (by decide) rfl rfl rfl (Nat.le_of_ble_eq_true rfl) (Nat.le_of_ble_eq_true rfl) ((k_X9_good h915 hI).mono (fun r940 h941 p942 => ?_))
                obtain ⟨rfl, x943, rfl, q944 | q944⟩ := p942
                · show RUN d_X9_readNext 95 [(1, .inl 0), (0, .inr (.inr (.inl 96)))] [.inl x943] h915 _
                  refine N_if_ne (a := x943.toInt) 99 rfl rfl rfl (fun c945 => ?_) (fun c945 => ?_)
                  · exfalso; omega
                  · exact R_vret rfl rfl ⟨hI, fr, ⟨by omega, by omega, by omega, by omega, by omega, by omega, by omega, trivial⟩, rfl⟩
                · exfalso; omega
              · exfalso; omega
            · refine R_aload_n (k := 0) rfl rfl rfl ?_
              refine R_getf_r (j := 14) rfl ft_9_31 sh_96 rfl ?_
              refine R_iconst 5 rfl rfl ?_
              refine R_iald rfl sh_102 (by decide) ?_
              show RUN d_X9_readNext 66 [(1, .inl 0), (0, .inr (.inr (.inl 96)))] [.inl (h915.1 102 5)] h915 _
              refine R_bipush 6 rfl rfl ?_
              refine N_icmp_eq (a := (h915.1 102 5).toInt) (b := 6) 86 rfl rfl rfl (by decide) (fun c946 => ?_) (fun c946 => ?_)
              · refine R_aload_n (k := 0) rfl rfl rfl ?_
                refine R_iconst 3 rfl rfl ?_
                have k947 : (3 : Int32).toInt = 3 := by decide
                refine R_callV (v := .inr (.inr (.inl 96))) (As := [.inl 3]) (rest := []) rfl mt_9_i198 pp_X9_errs (by decide) rfl rfl rfl (Nat.le_of_ble_eq_true rfl) (Nat.le_of_ble_eq_true rfl) ((g_X9_errs h915 hI (3 : Int32) (by decide)).mono (fun r948 h949 p950 => ?_))
                obtain ⟨hJ, fj, ⟨kp951, kp952, kp953, kp954, kp955, xq956, xq957, xq958, -⟩, rfl⟩ := p950
                have f959 := fj
                have fr := fr.trans fj (by decide)
                have hI := hJ
                have s960 : (h949.1 102 0).toInt = (h915.1 102 0).toInt := by rw [(f959 102 (by decide)).1]
                have s961 : (h949.1 102 5).toInt = (h915.1 102 5).toInt := by rw [(f959 102 (by decide)).1]
                have s962 : (h949.1 102 6).toInt = (h915.1 102 6).toInt := by rw [(f959 102 (by decide)).1]
                have s963 : (h949.1 102 9).toInt = (h915.1 102 9).toInt := by rw [(f959 102 (by decide)).1]
                have s964 : (h949.1 102 10).toInt = (h915.1 102 10).toInt := by rw [(f959 102 (by decide)).1]
                have b965 : (0 : Int) ≤ (h949.1 96 12).toInt ∧ (h949.1 96 12).toInt ≤ 3 := hI.1 96 12
                show RUN d_X9_readNext 91 [(1, .inl 0), (0, .inr (.inr (.inl 96)))] [] h949 _
                refine R_aload_n (k := 0) rfl rfl rfl ?_
                refine R_callV (v := .inr (.inr (.inl 96))) (As := []) (rest := []) rfl mt_9_i176 pp_X9_good (by decide) rfl rfl rfl (Nat.le_of_ble_eq_true rfl) (Nat.le_of_ble_eq_true rfl) ((k_X9_good h949 hI).mono (fun r966 h967 p968 => ?_))
                obtain ⟨rfl, x969, rfl, q970 | q970⟩ := p968
                · show RUN d_X9_readNext 95 [(1, .inl 0), (0, .inr (.inr (.inl 96)))] [.inl x969] h949 _
                  refine N_if_ne (a := x969.toInt) 99 rfl rfl rfl (fun c971 => ?_) (fun c971 => ?_)
                  · exfalso; omega
                  · exact R_vret rfl rfl ⟨hI, fr, ⟨by omega, by omega, by omega, by omega, by omega, by omega, by omega, trivial⟩, rfl⟩
                · exfalso; omega
              · refine R_iload_n (k := 1) rfl rfl rfl ?_
                refine N_if_eq (a := 0) 91 rfl rfl (by decide) (fun c972 => ?_) (fun c972 => ?_)
                · refine R_aload_n (k := 0) rfl rfl rfl ?_
                  refine R_callV (v := .inr (.inr (.inl 96))) (As := []) (rest := []) rfl mt_9_i176 pp_X9_good (by decide) rfl rfl rfl (Nat.le_of_ble_eq_true rfl) (Nat.le_of_ble_eq_true rfl) ((k_X9_good h915 hI).mono (fun r973 h974 p975 => ?_))
                  obtain ⟨rfl, x976, rfl, q977 | q977⟩ := p975
                  · show RUN d_X9_readNext 95 [(1, .inl 0), (0, .inr (.inr (.inl 96)))] [.inl x976] h915 _
                    refine N_if_ne (a := x976.toInt) 99 rfl rfl rfl (fun c978 => ?_) (fun c978 => ?_)
                    · exfalso; omega
                    · exact R_vret rfl rfl ⟨hI, fr, ⟨by omega, by omega, by omega, by omega, by omega, by omega, by omega, trivial⟩, rfl⟩
                  · exfalso; omega
                · exfalso; omega
    · refine R_iconst 1 rfl rfl ?_
      refine R_goto 23 rfl rfl ?_
      refine R_istore_n (k := 1) rfl [(1, .inl 1), (0, .inr (.inr (.inl 96)))] rfl rfl (by decide) ?_
      refine R_iload_n (k := 1) rfl rfl rfl ?_
      refine N_if_ne (a := 1) 51 rfl rfl (by decide) (fun c979 => ?_) (fun c979 => ?_)
      · refine R_aload_n (k := 0) rfl rfl rfl ?_
        refine R_ldc_s (i := 6) rfl kt_9_229 ?_
        refine R_callV (v := .inr (.inr (.inl 96))) (As := [.inr (.inr (.inr 7))]) (rest := []) rfl mt_9_i188 pp_X9_is (by decide) rfl rfl rfl (Nat.le_of_ble_eq_true rfl) (Nat.le_of_ble_eq_true rfl) ((CALL_ans (g_X9_is_1 h hI)).mono (fun r980 h981 p982 => ?_))
        obtain ⟨⟨rfl, x983, rfl, q984⟩, za985⟩ := p982
        have za985 := za985 _ rfl
        show RUN d_X9_readNext 57 [(1, .inl 1), (0, .inr (.inr (.inl 96)))] [.inl x983] h _
        refine N_if_eq (a := x983.toInt) 71 rfl rfl rfl (fun c986 => ?_) (fun c986 => ?_)
        · refine R_iload_n (k := 1) rfl rfl rfl ?_
          refine N_if_eq (a := 1) 91 rfl rfl (by decide) (fun c987 => ?_) (fun c987 => ?_)
          · exfalso; omega
          · refine R_aload_n (k := 0) rfl rfl rfl ?_
            refine R_getf_r (j := 14) rfl ft_9_31 sh_96 rfl ?_
            refine R_bipush 6 rfl rfl ?_
            refine R_iald rfl sh_102 (by decide) ?_
            show RUN d_X9_readNext 82 [(1, .inl 1), (0, .inr (.inr (.inl 96)))] [.inl (h.1 102 6)] h _
            refine R_iconst 5 rfl rfl ?_
            refine N_icmp_ne (a := (h.1 102 6).toInt) (b := 5) 91 rfl rfl rfl (by decide) (fun c988 => ?_) (fun c988 => ?_)
            · refine R_aload_n (k := 0) rfl rfl rfl ?_
              refine R_callV (v := .inr (.inr (.inl 96))) (As := []) (rest := []) rfl mt_9_i176 pp_X9_good (by decide) rfl rfl rfl (Nat.le_of_ble_eq_true rfl) (Nat.le_of_ble_eq_true rfl) ((k_X9_good h hI).mono (fun r989 h990 p991 => ?_))
              obtain ⟨rfl, x992, rfl, q993 | q993⟩ := p991
              · show RUN d_X9_readNext 95 [(1, .inl 1), (0, .inr (.inr (.inl 96)))] [.inl x992] h _
                refine N_if_ne (a := x992.toInt) 99 rfl rfl rfl (fun c994 => ?_) (fun c994 => ?_)
                · exfalso; omega
                · exact R_vret rfl rfl ⟨hI, fr, ⟨by omega, by omega, by omega, by omega, by omega, by omega, by omega, trivial⟩, rfl⟩
              · show RUN d_X9_readNext 95 [(1, .inl 1), (0, .inr (.inr (.inl 96)))] [.inl x992] h _
                refine N_if_ne (a := x992.toInt) 99 rfl rfl rfl (fun c995 => ?_) (fun c995 => ?_)
                · refine R_aload_n (k := 0) rfl rfl rfl ?_
                  refine R_ldc_s (i := 6) rfl kt_9_229 ?_
                  refine R_callV (v := .inr (.inr (.inl 96))) (As := [.inr (.inr (.inr 7))]) (rest := []) rfl mt_9_i195 pp_X9_takes (by decide) rfl rfl rfl (Nat.le_of_ble_eq_true rfl) (Nat.le_of_ble_eq_true rfl) ((g_X9_takes h hI).mono (fun r996 h997 p998 => ?_))
                  obtain ⟨hJ, fj, ⟨kp999, kp1000, kp1001, kp1002, xq1003, xq1004, -⟩, x1007, rfl, q1008, zq1005, zq1006, -⟩ := p998
                  have f1009 := fj
                  have fr := fr.trans fj (by decide)
                  have hI := hJ
                  have s1010 : (h997.1 102 0).toInt = (h.1 102 0).toInt := by rw [(f1009 102 (by decide)).1]
                  have s1011 : (h997.1 102 5).toInt = (h.1 102 5).toInt := by rw [(f1009 102 (by decide)).1]
                  have s1012 : (h997.1 102 6).toInt = (h.1 102 6).toInt := by rw [(f1009 102 (by decide)).1]
                  have s1013 : (h997.1 102 9).toInt = (h.1 102 9).toInt := by rw [(f1009 102 (by decide)).1]
                  have s1014 : (h997.1 102 10).toInt = (h.1 102 10).toInt := by rw [(f1009 102 (by decide)).1]
                  have b1015 : (0 : Int) ≤ (h997.1 96 8).toInt ∧ (h997.1 96 8).toInt ≤ 500 := hI.1 96 8
                  show RUN d_X9_readNext 105 [(1, .inl 1), (0, .inr (.inr (.inl 96)))] [.inl x1007] h997 _
                  have tq1016 : x1007.toInt = x983.toInt := by rw [zq1005, ← za985]
                  refine N_if_eq (a := x1007.toInt) 165 rfl rfl rfl (fun c1017 => ?_) (fun c1017 => ?_)
                  · refine R_aload_n (k := 0) rfl rfl rfl ?_
                    refine R_ldc_s (i := 9) rfl kt_9_225 ?_
                    refine R_callV (v := .inr (.inr (.inl 96))) (As := [.inr (.inr (.inr 10))]) (rest := []) rfl mt_9_i195 pp_X9_takes (by decide) rfl rfl rfl (Nat.le_of_ble_eq_true rfl) (Nat.le_of_ble_eq_true rfl) ((g_X9_takes_1 h997 hI).mono (fun r1018 h1019 p1020 => ?_))
                    obtain ⟨hJ, fj, ⟨kp1021, kp1022, kp1023, kp1024, xq1025, xq1026, -⟩, x1029, rfl, q1030, zq1027, zq1028, -⟩ := p1020
                    have f1031 := fj
                    have fr := fr.trans fj (by decide)
                    have hI := hJ
                    have s1032 : (h1019.1 102 0).toInt = (h997.1 102 0).toInt := by rw [(f1031 102 (by decide)).1]
                    have s1033 : (h1019.1 102 5).toInt = (h997.1 102 5).toInt := by rw [(f1031 102 (by decide)).1]
                    have s1034 : (h1019.1 102 6).toInt = (h997.1 102 6).toInt := by rw [(f1031 102 (by decide)).1]
                    have s1035 : (h1019.1 102 9).toInt = (h997.1 102 9).toInt := by rw [(f1031 102 (by decide)).1]
                    have s1036 : (h1019.1 102 10).toInt = (h997.1 102 10).toInt := by rw [(f1031 102 (by decide)).1]
                    have b1037 : (0 : Int) ≤ (h1019.1 96 8).toInt ∧ (h1019.1 96 8).toInt ≤ 500 := hI.1 96 8
                    show RUN d_X9_readNext 171 [(1, .inl 1), (0, .inr (.inr (.inl 96)))] [.inl x1029] h1019 _
                    have tq1038 : x1029.toInt = x12.toInt := by rw [zq1027, zq1006 (by omega), ← za14]
                    refine N_if_eq (a := x1029.toInt) 182 rfl rfl rfl (fun c1039 => ?_) (fun c1039 => ?_)
                    · refine R_aload_n (k := 0) rfl rfl rfl ?_
                      refine R_ldc_s (i := 10) rfl kt_9_227 ?_
                      refine R_callV (v := .inr (.inr (.inl 96))) (As := [.inr (.inr (.inr 11))]) (rest := []) rfl mt_9_i195 pp_X9_takes (by decide) rfl rfl rfl (Nat.le_of_ble_eq_true rfl) (Nat.le_of_ble_eq_true rfl) ((g_X9_takes_4 h1019 hI).mono (fun r1040 h1041 p1042 => ?_))
                      obtain ⟨hJ, fj, ⟨kp1043, kp1044, kp1045, kp1046, xq1047, xq1048, -⟩, x1051, rfl, q1052, zq1049, zq1050, -⟩ := p1042
                      have f1053 := fj
                      have fr := fr.trans fj (by decide)
                      have hI := hJ
                      have s1054 : (h1041.1 102 0).toInt = (h1019.1 102 0).toInt := by rw [(f1053 102 (by decide)).1]
                      have s1055 : (h1041.1 102 5).toInt = (h1019.1 102 5).toInt := by rw [(f1053 102 (by decide)).1]
                      have s1056 : (h1041.1 102 6).toInt = (h1019.1 102 6).toInt := by rw [(f1053 102 (by decide)).1]
                      have s1057 : (h1041.1 102 9).toInt = (h1019.1 102 9).toInt := by rw [(f1053 102 (by decide)).1]
                      have s1058 : (h1041.1 102 10).toInt = (h1019.1 102 10).toInt := by rw [(f1053 102 (by decide)).1]
                      have b1059 : (0 : Int) ≤ (h1041.1 96 8).toInt ∧ (h1041.1 96 8).toInt ≤ 500 := hI.1 96 8
                      show RUN d_X9_readNext 188 [(1, .inl 1), (0, .inr (.inr (.inl 96)))] [.inl x1051] h1041 _
                      have tq1060 : x1051.toInt = x286.toInt := by rw [zq1049, zq1028 (by omega), zq1006 (by omega), ← za288]
                      refine N_if_eq (a := x1051.toInt) 199 rfl rfl rfl (fun c1061 => ?_) (fun c1061 => ?_)
                      · exfalso; omega
                      · refine R_aload_n (k := 0) rfl rfl rfl ?_
                        refine R_iconst 0 rfl rfl ?_
                        have k1062 : (0 : Int32).toInt = 0 := by decide
                        refine R_callV (v := .inr (.inr (.inl 96))) (As := [.inl 0]) (rest := []) rfl mt_9_i237 pp_X9_readPair (by decide) rfl rfl rfl (Nat.le_of_ble_eq_true rfl) (Nat.le_of_ble_eq_true rfl) ((g_X9_readPair h1041 hI (0 : Int32) (by decide) (by omega)).mono (fun r1063 h1064 p1065 => ?_))
                        obtain ⟨hJ, fj, ⟨kp1066, kp1067, kp1068, kp1069, kp1070, kp1071, xq1072, xq1073, -⟩, rfl⟩ := p1065
                        have f1074 := fj
                        have fr := fr.trans fj (by decide)
                        have hI := hJ
                        have b1075 : (0 : Int) ≤ (h1064.1 96 12).toInt ∧ (h1064.1 96 12).toInt ≤ 3 := hI.1 96 12
                        have b1076 : (0 : Int) ≤ (h1064.1 96 8).toInt ∧ (h1064.1 96 8).toInt ≤ 500 := hI.1 96 8
                        have b1077 : (0 : Int) ≤ (h1064.1 102 6).toInt ∧ (h1064.1 102 6).toInt ≤ 5 := hI.1 102 6
                        show RUN d_X9_readNext 196 [(1, .inl 1), (0, .inr (.inr (.inl 96)))] [] h1064 _
                        refine R_goto 236 rfl rfl ?_
                        exact R_vret rfl rfl ⟨hI, fr, ⟨by omega, by omega, by omega, by omega, by omega, by omega, by omega, trivial⟩, rfl⟩
                    · exfalso; omega
                  · exfalso; omega
                · exfalso; omega
            · refine R_aload_n (k := 0) rfl rfl rfl ?_
              refine R_iconst 3 rfl rfl ?_
              have k1078 : (3 : Int32).toInt = 3 := by decide
              refine R_callV (v := .inr (.inr (.inl 96))) (As := [.inl 3]) (rest := []) rfl mt_9_i198 pp_X9_errs (by decide) rfl rfl rfl (Nat.le_of_ble_eq_true rfl) (Nat.le_of_ble_eq_true rfl) ((g_X9_errs h hI (3 : Int32) (by decide)).mono (fun r1079 h1080 p1081 => ?_))
              obtain ⟨hJ, fj, ⟨kp1082, kp1083, kp1084, kp1085, kp1086, xq1087, xq1088, xq1089, -⟩, rfl⟩ := p1081
              have f1090 := fj
              have fr := fr.trans fj (by decide)
              have hI := hJ
              have s1091 : (h1080.1 102 0).toInt = (h.1 102 0).toInt := by rw [(f1090 102 (by decide)).1]
              have s1092 : (h1080.1 102 5).toInt = (h.1 102 5).toInt := by rw [(f1090 102 (by decide)).1]
              have s1093 : (h1080.1 102 6).toInt = (h.1 102 6).toInt := by rw [(f1090 102 (by decide)).1]
              have s1094 : (h1080.1 102 9).toInt = (h.1 102 9).toInt := by rw [(f1090 102 (by decide)).1]
              have s1095 : (h1080.1 102 10).toInt = (h.1 102 10).toInt := by rw [(f1090 102 (by decide)).1]
              have b1096 : (0 : Int) ≤ (h1080.1 96 12).toInt ∧ (h1080.1 96 12).toInt ≤ 3 := hI.1 96 12
              show RUN d_X9_readNext 91 [(1, .inl 1), (0, .inr (.inr (.inl 96)))] [] h1080 _
              refine R_aload_n (k := 0) rfl rfl rfl ?_
              refine R_callV (v := .inr (.inr (.inl 96))) (As := []) (rest := []) rfl mt_9_i176 pp_X9_good (by decide) rfl rfl rfl (Nat.le_of_ble_eq_true rfl) (Nat.le_of_ble_eq_true rfl) ((k_X9_good h1080 hI).mono (fun r1097 h1098 p1099 => ?_))
              obtain ⟨rfl, x1100, rfl, q1101 | q1101⟩ := p1099
              · show RUN d_X9_readNext 95 [(1, .inl 1), (0, .inr (.inr (.inl 96)))] [.inl x1100] h1080 _
                refine N_if_ne (a := x1100.toInt) 99 rfl rfl rfl (fun c1102 => ?_) (fun c1102 => ?_)
                · exfalso; omega
                · exact R_vret rfl rfl ⟨hI, fr, ⟨by omega, by omega, by omega, by omega, by omega, by omega, by omega, trivial⟩, rfl⟩
              · exfalso; omega
        · refine R_aload_n (k := 0) rfl rfl rfl ?_
          refine R_getf_r (j := 14) rfl ft_9_31 sh_96 rfl ?_
          refine R_iconst 5 rfl rfl ?_
          refine R_iald rfl sh_102 (by decide) ?_
          show RUN d_X9_readNext 66 [(1, .inl 1), (0, .inr (.inr (.inl 96)))] [.inl (h.1 102 5)] h _
          refine R_bipush 6 rfl rfl ?_
          refine N_icmp_eq (a := (h.1 102 5).toInt) (b := 6) 86 rfl rfl rfl (by decide) (fun c1103 => ?_) (fun c1103 => ?_)
          · refine R_aload_n (k := 0) rfl rfl rfl ?_
            refine R_iconst 3 rfl rfl ?_
            have k1104 : (3 : Int32).toInt = 3 := by decide
            refine R_callV (v := .inr (.inr (.inl 96))) (As := [.inl 3]) (rest := []) rfl mt_9_i198 pp_X9_errs (by decide) rfl rfl rfl (Nat.le_of_ble_eq_true rfl) (Nat.le_of_ble_eq_true rfl) ((g_X9_errs h hI (3 : Int32) (by decide)).mono (fun r1105 h1106 p1107 => ?_))
            obtain ⟨hJ, fj, ⟨kp1108, kp1109, kp1110, kp1111, kp1112, xq1113, xq1114, xq1115, -⟩, rfl⟩ := p1107
            have f1116 := fj
            have fr := fr.trans fj (by decide)
            have hI := hJ
            have s1117 : (h1106.1 102 0).toInt = (h.1 102 0).toInt := by rw [(f1116 102 (by decide)).1]
            have s1118 : (h1106.1 102 5).toInt = (h.1 102 5).toInt := by rw [(f1116 102 (by decide)).1]
            have s1119 : (h1106.1 102 6).toInt = (h.1 102 6).toInt := by rw [(f1116 102 (by decide)).1]
            have s1120 : (h1106.1 102 9).toInt = (h.1 102 9).toInt := by rw [(f1116 102 (by decide)).1]
            have s1121 : (h1106.1 102 10).toInt = (h.1 102 10).toInt := by rw [(f1116 102 (by decide)).1]
            have b1122 : (0 : Int) ≤ (h1106.1 96 12).toInt ∧ (h1106.1 96 12).toInt ≤ 3 := hI.1 96 12
            show RUN d_X9_readNext 91 [(1, .inl 1), (0, .inr (.inr (.inl 96)))] [] h1106 _
            refine R_aload_n (k := 0) rfl rfl rfl ?_
            refine R_callV (v := .inr (.inr (.inl 96))) (As := []) (rest := []) rfl mt_9_i176 pp_X9_good (by decide) rfl rfl rfl (Nat.le_of_ble_eq_true rfl) (Nat.le_of_ble_eq_true rfl) ((k_X9_good h1106 hI).mono (fun r1123 h1124 p1125 => ?_))
            obtain ⟨rfl, x1126, rfl, q1127 | q1127⟩ := p1125
            · show RUN d_X9_readNext 95 [(1, .inl 1), (0, .inr (.inr (.inl 96)))] [.inl x1126] h1106 _
              refine N_if_ne (a := x1126.toInt) 99 rfl rfl rfl (fun c1128 => ?_) (fun c1128 => ?_)
              · exfalso; omega
              · exact R_vret rfl rfl ⟨hI, fr, ⟨by omega, by omega, by omega, by omega, by omega, by omega, by omega, trivial⟩, rfl⟩
            · exfalso; omega
          · refine R_iload_n (k := 1) rfl rfl rfl ?_
            refine N_if_eq (a := 1) 91 rfl rfl (by decide) (fun c1129 => ?_) (fun c1129 => ?_)
            · exfalso; omega
            · refine R_aload_n (k := 0) rfl rfl rfl ?_
              refine R_getf_r (j := 14) rfl ft_9_31 sh_96 rfl ?_
              refine R_bipush 6 rfl rfl ?_
              refine R_iald rfl sh_102 (by decide) ?_
              show RUN d_X9_readNext 82 [(1, .inl 1), (0, .inr (.inr (.inl 96)))] [.inl (h.1 102 6)] h _
              refine R_iconst 5 rfl rfl ?_
              refine N_icmp_ne (a := (h.1 102 6).toInt) (b := 5) 91 rfl rfl rfl (by decide) (fun c1130 => ?_) (fun c1130 => ?_)
              · refine R_aload_n (k := 0) rfl rfl rfl ?_
                refine R_callV (v := .inr (.inr (.inl 96))) (As := []) (rest := []) rfl mt_9_i176 pp_X9_good (by decide) rfl rfl rfl (Nat.le_of_ble_eq_true rfl) (Nat.le_of_ble_eq_true rfl) ((k_X9_good h hI).mono (fun r1131 h1132 p1133 => ?_))
                obtain ⟨rfl, x1134, rfl, q1135 | q1135⟩ := p1133
                · show RUN d_X9_readNext 95 [(1, .inl 1), (0, .inr (.inr (.inl 96)))] [.inl x1134] h _
                  refine N_if_ne (a := x1134.toInt) 99 rfl rfl rfl (fun c1136 => ?_) (fun c1136 => ?_)
                  · exfalso; omega
                  · exact R_vret rfl rfl ⟨hI, fr, ⟨by omega, by omega, by omega, by omega, by omega, by omega, by omega, trivial⟩, rfl⟩
                · show RUN d_X9_readNext 95 [(1, .inl 1), (0, .inr (.inr (.inl 96)))] [.inl x1134] h _
                  refine N_if_ne (a := x1134.toInt) 99 rfl rfl rfl (fun c1137 => ?_) (fun c1137 => ?_)
                  · refine R_aload_n (k := 0) rfl rfl rfl ?_
                    refine R_ldc_s (i := 6) rfl kt_9_229 ?_
                    refine R_callV (v := .inr (.inr (.inl 96))) (As := [.inr (.inr (.inr 7))]) (rest := []) rfl mt_9_i195 pp_X9_takes (by decide) rfl rfl rfl (Nat.le_of_ble_eq_true rfl) (Nat.le_of_ble_eq_true rfl) ((g_X9_takes h hI).mono (fun r1138 h1139 p1140 => ?_))
                    obtain ⟨hJ, fj, ⟨kp1141, kp1142, kp1143, kp1144, xq1145, xq1146, -⟩, x1149, rfl, q1150, zq1147, zq1148, -⟩ := p1140
                    have f1151 := fj
                    have fr := fr.trans fj (by decide)
                    have hI := hJ
                    have s1152 : (h1139.1 102 0).toInt = (h.1 102 0).toInt := by rw [(f1151 102 (by decide)).1]
                    have s1153 : (h1139.1 102 5).toInt = (h.1 102 5).toInt := by rw [(f1151 102 (by decide)).1]
                    have s1154 : (h1139.1 102 6).toInt = (h.1 102 6).toInt := by rw [(f1151 102 (by decide)).1]
                    have s1155 : (h1139.1 102 9).toInt = (h.1 102 9).toInt := by rw [(f1151 102 (by decide)).1]
                    have s1156 : (h1139.1 102 10).toInt = (h.1 102 10).toInt := by rw [(f1151 102 (by decide)).1]
                    have b1157 : (0 : Int) ≤ (h1139.1 96 8).toInt ∧ (h1139.1 96 8).toInt ≤ 500 := hI.1 96 8
                    show RUN d_X9_readNext 105 [(1, .inl 1), (0, .inr (.inr (.inl 96)))] [.inl x1149] h1139 _
                    have tq1158 : x1149.toInt = x983.toInt := by rw [zq1147, ← za985]
                    refine N_if_eq (a := x1149.toInt) 165 rfl rfl rfl (fun c1159 => ?_) (fun c1159 => ?_)
                    · exfalso; omega
                    · refine R_bipush 11 rfl rfl ?_
                      refine R_iconst 2 rfl rfl ?_
                      refine R_aload_n (k := 0) rfl rfl rfl ?_
                      refine R_getf_r (j := 14) rfl ft_9_31 sh_96 rfl ?_
                      refine R_iconst 5 rfl rfl ?_
                      refine R_iald rfl sh_102 (by decide) ?_
                      show RUN d_X9_readNext 117 [(1, .inl 1), (0, .inr (.inr (.inl 96)))] [.inl (h1139.1 102 5), .inl 2, .inl 11] h1139 _
                      refine N_imul (a := 2) (b := (h1139.1 102 5).toInt) rfl (by decide) rfl (by omega) (fun x1160 q1161 => ?_)
                      refine N_iadd (a := 11) (b := x1160.toInt) rfl (by decide) rfl (by omega) (fun x1162 q1163 => ?_)
                      refine R_istore_n (k := 2) rfl [(2, .inl x1162), (1, .inl 1), (0, .inr (.inr (.inl 96)))] rfl rfl (by decide) ?_
                      refine R_aload_n (k := 0) rfl rfl rfl ?_
                      refine R_getf_r (j := 14) rfl ft_9_31 sh_96 rfl ?_
                      refine R_iload_n (k := 2) rfl rfl rfl ?_
                      refine R_aload_n (k := 0) rfl rfl rfl ?_
                      refine R_ldc_s (i := 7) rfl kt_9_233 ?_
                      refine R_iconst 1 rfl rfl ?_
                      refine R_bipush 6 rfl rfl ?_
                      have k1164 : (1 : Int32).toInt = 1 := by decide
                      have k1165 : (6 : Int32).toInt = 6 := by decide
                      refine R_callV (v := .inr (.inr (.inl 96))) (As := [.inr (.inr (.inr 8)), .inl 1, .inl 6]) (rest := [.inl x1162, .inr (.inr (.inl 102))]) rfl mt_9_i213 pp_X9_told (by decide) rfl rfl rfl (Nat.le_of_ble_eq_true rfl) (Nat.le_of_ble_eq_true rfl) ((g_X9_told h1139 hI (1 : Int32) (6 : Int32) (by decide) (by decide)).mono (fun r1166 h1167 p1168 => ?_))
                      obtain ⟨hJ, fj, ⟨kp1169, kp1170, xq1171, xq1172, -⟩, x1175, rfl, q1176, zq1173, zq1174, -⟩ := p1168
                      have f1177 := fj
                      have fr := fr.trans fj (by decide)
                      have hI := hJ
                      have s1178 : (h1167.1 102 0).toInt = (h1139.1 102 0).toInt := by rw [(f1177 102 (by decide)).1]
                      have s1179 : (h1167.1 102 5).toInt = (h1139.1 102 5).toInt := by rw [(f1177 102 (by decide)).1]
                      have s1180 : (h1167.1 102 6).toInt = (h1139.1 102 6).toInt := by rw [(f1177 102 (by decide)).1]
                      have s1181 : (h1167.1 102 9).toInt = (h1139.1 102 9).toInt := by rw [(f1177 102 (by decide)).1]
                      have s1182 : (h1167.1 102 10).toInt = (h1139.1 102 10).toInt := by rw [(f1177 102 (by decide)).1]
                      have b1183 : (0 : Int) ≤ (h1167.1 96 12).toInt ∧ (h1167.1 96 12).toInt ≤ 3 := hI.1 96 12
                      have b1184 : (0 : Int) ≤ (h1167.1 96 8).toInt ∧ (h1167.1 96 8).toInt ≤ 500 := hI.1 96 8
                      show RUN d_X9_readNext 134 [(2, .inl x1162), (1, .inl 1), (0, .inr (.inr (.inl 96)))] [.inl x1175, .inl x1162, .inr (.inr (.inl 102))] h1167 _
                      refine K_iast (a := x1162.toInt) (lo := 0) (hi' := 6) rfl sh_102 rfl ⟨by omega, by omega⟩ hI (by decide) (bnd_hp (by omega)) (by omega) fr (by decide) (fun h1185 g1186 hI fr => ?_)
                      have s1187 : (h1185.1 102 0).toInt = (h1167.1 102 0).toInt := by rw [g1186, wI_at (i := 0) (nepl (x := x1162) (c := 0) (by omega))]
                      have s1188 : (h1185.1 102 5).toInt = (h1167.1 102 5).toInt := by rw [g1186, wI_at (i := 5) (nepl (x := x1162) (c := 5) (by omega))]
                      have s1189 : (h1185.1 102 6).toInt = (h1167.1 102 6).toInt := by rw [g1186, wI_at (i := 6) (nepl (x := x1162) (c := 6) (by omega))]
                      have s1190 : (h1185.1 102 9).toInt = (h1167.1 102 9).toInt := by rw [g1186, wI_at (i := 9) (nepl (x := x1162) (c := 9) (by omega))]
                      have s1191 : (h1185.1 102 10).toInt = (h1167.1 102 10).toInt := by rw [g1186, wI_at (i := 10) (nepl (x := x1162) (c := 10) (by omega))]
                      have s1192 : (h1185.1 96 7).toInt = (h1167.1 96 7).toInt := by rw [g1186, wI_ne _ _ _ (by decide)]
                      have s1193 : (h1185.1 96 5).toInt = (h1167.1 96 5).toInt := by rw [g1186, wI_ne _ _ _ (by decide)]
                      have s1194 : (h1185.1 96 12).toInt = (h1167.1 96 12).toInt := by rw [g1186, wI_ne _ _ _ (by decide)]
                      have s1195 : (h1185.1 96 8).toInt = (h1167.1 96 8).toInt := by rw [g1186, wI_ne _ _ _ (by decide)]
                      refine R_aload_n (k := 0) rfl rfl rfl ?_
                      refine R_getf_r (j := 14) rfl ft_9_31 sh_96 rfl ?_
                      refine R_iload_n (k := 2) rfl rfl rfl ?_
                      refine R_iconst 1 rfl rfl ?_
                      refine N_iadd (a := x1162.toInt) (b := 1) rfl rfl (by decide) (by omega) (fun x1196 q1197 => ?_)
                      refine R_aload_n (k := 0) rfl rfl rfl ?_
                      refine R_ldc_s (i := 8) rfl kt_9_235 ?_
                      refine R_iconst 0 rfl rfl ?_
                      refine R_bipush 9 rfl rfl ?_
                      have k1198 : (0 : Int32).toInt = 0 := by decide
                      have k1199 : (9 : Int32).toInt = 9 := by decide
                      refine R_callV (v := .inr (.inr (.inl 96))) (As := [.inr (.inr (.inr 9)), .inl 0, .inl 9]) (rest := [.inl x1196, .inr (.inr (.inl 102))]) rfl mt_9_i213 pp_X9_told (by decide) rfl rfl rfl (Nat.le_of_ble_eq_true rfl) (Nat.le_of_ble_eq_true rfl) ((g_X9_told_1 h1185 hI (0 : Int32) (9 : Int32) (by decide) (by decide)).mono (fun r1200 h1201 p1202 => ?_))
                      obtain ⟨hJ, fj, ⟨kp1203, kp1204, xq1205, xq1206, -⟩, x1209, rfl, q1210, zq1207, zq1208, -⟩ := p1202
                      have f1211 := fj
                      have fr := fr.trans fj (by decide)
                      have hI := hJ
                      have s1212 : (h1201.1 102 0).toInt = (h1185.1 102 0).toInt := by rw [(f1211 102 (by decide)).1]
                      have s1213 : (h1201.1 102 5).toInt = (h1185.1 102 5).toInt := by rw [(f1211 102 (by decide)).1]
                      have s1214 : (h1201.1 102 6).toInt = (h1185.1 102 6).toInt := by rw [(f1211 102 (by decide)).1]
                      have s1215 : (h1201.1 102 9).toInt = (h1185.1 102 9).toInt := by rw [(f1211 102 (by decide)).1]
                      have s1216 : (h1201.1 102 10).toInt = (h1185.1 102 10).toInt := by rw [(f1211 102 (by decide)).1]
                      have b1217 : (0 : Int) ≤ (h1201.1 96 12).toInt ∧ (h1201.1 96 12).toInt ≤ 3 := hI.1 96 12
                      have b1218 : (0 : Int) ≤ (h1201.1 96 8).toInt ∧ (h1201.1 96 8).toInt ≤ 500 := hI.1 96 8
                      show RUN d_X9_readNext 151 [(2, .inl x1162), (1, .inl 1), (0, .inr (.inr (.inl 96)))] [.inl x1209, .inl x1196, .inr (.inr (.inl 102))] h1201 _
                      refine K_iast (a := x1196.toInt) (lo := (-2147483648)) (hi' := 2147483647) rfl sh_102 rfl ⟨by omega, by omega⟩ hI (by decide) (bnd_he (by omega)) (i_rng _) fr (by decide) (fun h1219 g1220 hI fr => ?_)
                      have s1221 : (h1219.1 102 0).toInt = (h1201.1 102 0).toInt := by rw [g1220, wI_at (i := 0) (nepl (x := x1196) (c := 0) (by omega))]
                      have s1222 : (h1219.1 102 5).toInt = (h1201.1 102 5).toInt := by rw [g1220, wI_at (i := 5) (nepl (x := x1196) (c := 5) (by omega))]
                      have s1223 : (h1219.1 102 6).toInt = (h1201.1 102 6).toInt := by rw [g1220, wI_at (i := 6) (nepl (x := x1196) (c := 6) (by omega))]
                      have s1224 : (h1219.1 102 9).toInt = (h1201.1 102 9).toInt := by rw [g1220, wI_at (i := 9) (nepl (x := x1196) (c := 9) (by omega))]
                      have s1225 : (h1219.1 102 10).toInt = (h1201.1 102 10).toInt := by rw [g1220, wI_at (i := 10) (nepl (x := x1196) (c := 10) (by omega))]
                      have s1226 : (h1219.1 96 7).toInt = (h1201.1 96 7).toInt := by rw [g1220, wI_ne _ _ _ (by decide)]
                      have s1227 : (h1219.1 96 5).toInt = (h1201.1 96 5).toInt := by rw [g1220, wI_ne _ _ _ (by decide)]
                      have s1228 : (h1219.1 96 12).toInt = (h1201.1 96 12).toInt := by rw [g1220, wI_ne _ _ _ (by decide)]
                      have s1229 : (h1219.1 96 8).toInt = (h1201.1 96 8).toInt := by rw [g1220, wI_ne _ _ _ (by decide)]
                      refine R_aload_n (k := 0) rfl rfl rfl ?_
                      refine R_getf_r (j := 14) rfl ft_9_31 sh_96 rfl ?_
                      refine R_iconst 5 rfl rfl ?_
                      refine R_dup2 rfl ?_
                      refine R_iald rfl sh_102 (by decide) ?_
                      show RUN d_X9_readNext 159 [(2, .inl x1162), (1, .inl 1), (0, .inr (.inr (.inl 96)))] [.inl (h1219.1 102 5), .inl 5, .inr (.inr (.inl 102))] h1219 _
                      refine R_iconst 1 rfl rfl ?_
                      refine N_iadd (a := (h1219.1 102 5).toInt) (b := 1) rfl rfl (by decide) (by omega) (fun x1230 q1231 => ?_)
                      refine K_iast (a := 5) (lo := 0) (hi' := 6) rfl sh_102 (by decide) (by decide) hI (by decide) rfl (by omega) fr (by decide) (fun h1232 g1233 hI fr => ?_)
                      have s1234 : (h1232.1 102 0).toInt = (h1219.1 102 0).toInt := by rw [g1233, show (5 : Int32).toNatClampNeg = 5 from rfl, wI_at (by decide)]
                      have s1235 : (h1232.1 102 6).toInt = (h1219.1 102 6).toInt := by rw [g1233, show (5 : Int32).toNatClampNeg = 5 from rfl, wI_at (by decide)]
                      have s1236 : (h1232.1 102 9).toInt = (h1219.1 102 9).toInt := by rw [g1233, show (5 : Int32).toNatClampNeg = 5 from rfl, wI_at (by decide)]
                      have s1237 : (h1232.1 102 10).toInt = (h1219.1 102 10).toInt := by rw [g1233, show (5 : Int32).toNatClampNeg = 5 from rfl, wI_at (by decide)]
                      have s1238 : (h1232.1 96 7).toInt = (h1219.1 96 7).toInt := by rw [g1233, wI_ne _ _ _ (by decide)]
                      have s1239 : (h1232.1 96 5).toInt = (h1219.1 96 5).toInt := by rw [g1233, wI_ne _ _ _ (by decide)]
                      have s1240 : (h1232.1 96 12).toInt = (h1219.1 96 12).toInt := by rw [g1233, wI_ne _ _ _ (by decide)]
                      have s1241 : (h1232.1 96 8).toInt = (h1219.1 96 8).toInt := by rw [g1233, wI_ne _ _ _ (by decide)]
                      have s1242 : (h1232.1 102 5).toInt = x1230.toInt := by rw [g1233, show (5 : Int32).toNatClampNeg = 5 from rfl, wI_is]
                      refine R_goto 236 rfl rfl ?_
                      exact R_vret rfl rfl ⟨hI, fr, ⟨by omega, by omega, by omega, by omega, by omega, by omega, by omega, trivial⟩, rfl⟩
                  · exfalso; omega
              · refine R_aload_n (k := 0) rfl rfl rfl ?_
                refine R_iconst 3 rfl rfl ?_
                have k1243 : (3 : Int32).toInt = 3 := by decide
                refine R_callV (v := .inr (.inr (.inl 96))) (As := [.inl 3]) (rest := []) rfl mt_9_i198 pp_X9_errs (by decide) rfl rfl rfl (Nat.le_of_ble_eq_true rfl) (Nat.le_of_ble_eq_true rfl) ((g_X9_errs h hI (3 : Int32) (by decide)).mono (fun r1244 h1245 p1246 => ?_))
                obtain ⟨hJ, fj, ⟨kp1247, kp1248, kp1249, kp1250, kp1251, xq1252, xq1253, xq1254, -⟩, rfl⟩ := p1246
                have f1255 := fj
                have fr := fr.trans fj (by decide)
                have hI := hJ
                have s1256 : (h1245.1 102 0).toInt = (h.1 102 0).toInt := by rw [(f1255 102 (by decide)).1]
                have s1257 : (h1245.1 102 5).toInt = (h.1 102 5).toInt := by rw [(f1255 102 (by decide)).1]
                have s1258 : (h1245.1 102 6).toInt = (h.1 102 6).toInt := by rw [(f1255 102 (by decide)).1]
                have s1259 : (h1245.1 102 9).toInt = (h.1 102 9).toInt := by rw [(f1255 102 (by decide)).1]
                have s1260 : (h1245.1 102 10).toInt = (h.1 102 10).toInt := by rw [(f1255 102 (by decide)).1]
                have b1261 : (0 : Int) ≤ (h1245.1 96 12).toInt ∧ (h1245.1 96 12).toInt ≤ 3 := hI.1 96 12
                show RUN d_X9_readNext 91 [(1, .inl 1), (0, .inr (.inr (.inl 96)))] [] h1245 _
                refine R_aload_n (k := 0) rfl rfl rfl ?_
                refine R_callV (v := .inr (.inr (.inl 96))) (As := []) (rest := []) rfl mt_9_i176 pp_X9_good (by decide) rfl rfl rfl (Nat.le_of_ble_eq_true rfl) (Nat.le_of_ble_eq_true rfl) ((k_X9_good h1245 hI).mono (fun r1262 h1263 p1264 => ?_))
                obtain ⟨rfl, x1265, rfl, q1266 | q1266⟩ := p1264
                · show RUN d_X9_readNext 95 [(1, .inl 1), (0, .inr (.inr (.inl 96)))] [.inl x1265] h1245 _
                  refine N_if_ne (a := x1265.toInt) 99 rfl rfl rfl (fun c1267 => ?_) (fun c1267 => ?_)
                  · exfalso; omega
                  · exact R_vret rfl rfl ⟨hI, fr, ⟨by omega, by omega, by omega, by omega, by omega, by omega, by omega, trivial⟩, rfl⟩
                · exfalso; omega
      · exfalso; omega
