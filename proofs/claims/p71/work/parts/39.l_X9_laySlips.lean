abbrev qg_X9_laySlips (h : PH) (a0 : Int32) (a1 : Int32) : Option PV → PH → Prop := fun r h' => INV h' ∧ FR [96, 103, 104, 105, 106, 107, 108, 109, 110, 111, 112, 113, 114, 115, 116, 117, 118, 119] h h' ∧ ((¬ (h'.2 96 54).toInt = 0) ∧ True) ∧ r = none
set_option maxHeartbeats 4000000 in
set_option maxRecDepth 100000 in
theorem g_X9_laySlips (h : PH) (hI : INV h) (a0 : Int32) (a1 : Int32) (h0a : 0 ≤ a0.toInt ∧ a0.toInt ≤ 7) (h1a : 0 ≤ a1.toInt ∧ a1.toInt ≤ 9) : CALL d_X9_laySlips [.inr (.inr (.inl 96)), .inl a0, .inl a1] h (qg_X9_laySlips h a0 a1) := by
  show RUN d_X9_laySlips 0 [(0, .inr (.inr (.inl 96))), (1, .inl a0), (2, .inl a1)] [] h _
  have fr : FR [96, 103, 104, 105, 106, 107, 108, 109, 110, 111, 112, 113, 114, 115, 116, 117, 118, 119] h h := FR.rf _ _
  have b1 : (0 : Int) ≤ (h.1 97 4).toInt ∧ (h.1 97 4).toInt ≤ 10 := hI.1 97 4
  refine R_aload_n (k := 0) rfl rfl rfl ?_
  refine R_lconst 0 rfl rfl ?_
  refine K_putl (j := 54) rfl ft_9_479 sh_96 rfl hI fr (by decide) (fun h2 g3 hI fr => ?_)
  have s4 : (h2.1 97 4).toInt = (h.1 97 4).toInt := by rw [g3, wL_fst]
  have hO : h2.2 96 54 = (0 : Int64) := by rw [g3, wL_is]
  refine R_aload_n (k := 0) rfl rfl rfl ?_
  refine R_lconst 0 rfl rfl ?_
  refine K_putl (j := 55) rfl ft_9_483 sh_96 rfl hI fr (by decide) (fun h5 g6 hI fr => ?_)
  have s7 : (h5.1 97 4).toInt = (h2.1 97 4).toInt := by rw [g6, wL_fst]
  have hO : h5.2 96 54 = (0 : Int64) := by rw [g6, wL_at (by decide)]; exact hO
  refine R_aload_n (k := 0) rfl rfl rfl ?_
  refine R_lconst 0 rfl rfl ?_
  refine K_putl (j := 56) rfl ft_9_486 sh_96 rfl hI fr (by decide) (fun h8 g9 hI fr => ?_)
  have s10 : (h8.1 97 4).toInt = (h5.1 97 4).toInt := by rw [g9, wL_fst]
  have hO : h8.2 96 54 = (0 : Int64) := by rw [g9, wL_at (by decide)]; exact hO
  refine R_aload_n (k := 0) rfl rfl rfl ?_
  refine R_callV (v := .inr (.inr (.inl 96))) (As := []) (rest := []) rfl mt_9_i298 pp_X9_asItIs (by decide) rfl rfl rfl (Nat.le_of_ble_eq_true rfl) (Nat.le_of_ble_eq_true rfl) ((CALL_nl NLS_ok NL_X9_asItIs (g_X9_asItIs h8 hI)).mono (fun r11 h12 p13 => ?_))
  obtain ⟨⟨hJ, fj, ⟨kp14, xq15, xq16, xq17, -⟩, rfl⟩, nl⟩ := p13
  have hO : h12.2 96 54 = (0 : Int64) := (congrFun (congrFun nl 96) 54).trans hO
  have f18 := fj
  have fr := fr.trans fj (by decide)
  have hI := hJ
  have s19 : (h12.1 97 4).toInt = (h8.1 97 4).toInt := by rw [(f18 97 (by decide)).1]
  have b20 : (0 : Int) ≤ (h12.1 97 5).toInt ∧ (h12.1 97 5).toInt ≤ 6 := hI.1 97 5
  have b21 : (0 : Int) ≤ (h12.1 97 0).toInt ∧ (h12.1 97 0).toInt ≤ 60 := hI.1 97 0
  have e22 : 0 < (h12.1 97 5).toInt → 1 ≤ (h12.1 97 0).toInt := hI.2.2.2.2.2.1.2.2
  have b23 : (0 : Int) ≤ (h12.1 97 1).toInt ∧ (h12.1 97 1).toInt ≤ 8 := hI.1 97 1
  have b24 : (0 : Int) ≤ (h12.1 96 18).toInt ∧ (h12.1 96 18).toInt ≤ 6 := hI.1 96 18
  show RUN d_X9_laySlips 19 [(0, .inr (.inr (.inl 96))), (1, .inl a0), (2, .inl a1)] [] h12 _
  refine R_iconst 0 rfl rfl ?_
  refine R_istore_n (k := 3) rfl [(3, .inl 0), (0, .inr (.inr (.inl 96))), (1, .inl a0), (2, .inl a1)] rfl rfl (by decide) ?_
  have lp26 : ∀ (n25 : Nat) (h27 : PH) (x29 : Int32), INV h27 → FR [96, 103, 104, 105, 106, 107, 108, 109, 110, 111, 112, 113, 114, 115, 116, 117, 118, 119] h h27 → FR [96, 106, 107, 108, 109, 110, 111, 112, 113, 114, 115, 116, 117, 118, 119] h12 h27 → 0 ≤ x29.toInt ∧ x29.toInt ≤ 256 → (h27.1 96 18).toInt = (h12.1 96 18).toInt → (h27.1 96 19).toInt = (h12.1 96 19).toInt → (0 ≤ (h27.2 96 54).toInt ∧ (h27.2 96 54).toInt ≤ x29.toInt * 100000000) → ((h.1 97 4).toInt < 10 → 0 < x29.toInt → 0 < (h27.2 96 54).toInt) → (I3 (h.1 97 4).toInt a0.toInt x29.toInt (h27.2 96 54).toInt) → (True) → (256 - x29.toInt).toNat < n25 → RUN d_X9_laySlips 21 [(3, .inl x29), (0, .inr (.inr (.inl 96))), (1, .inl a0), (2, .inl a1)] [] h27 (qg_X9_laySlips h a0 a1) := by
    intro n25
    induction n25 with
    | zero => intro h27 x29 m31 m32 m33 m34 m35 m36 m37 m38 m39 m40 hz; exact absurd hz (Nat.not_lt_zero _)
    | succ n25 ih30 =>
      intro h27 x29 hI fr fl28 m34 m35 m36 m37 m38 m39 m40 hz
      have s41 : (h27.1 97 4).toInt = (h12.1 97 4).toInt := by rw [(fl28 97 (by decide)).1]
      have s42 : (h27.1 97 5).toInt = (h12.1 97 5).toInt := by rw [(fl28 97 (by decide)).1]
      have s43 : (h27.1 97 0).toInt = (h12.1 97 0).toInt := by rw [(fl28 97 (by decide)).1]
      have s44 : (h27.1 97 1).toInt = (h12.1 97 1).toInt := by rw [(fl28 97 (by decide)).1]
      have hO : h27.2 96 54 = h27.2 96 54 := rfl
      refine R_iload_n (k := 3) rfl rfl rfl ?_
      refine R_iconst 2 rfl rfl ?_
      refine R_iload_n (k := 1) rfl rfl rfl ?_
      refine R_ishl rfl ?_
      refine N_eq (fun x45 e46 => ?_)
      have qb48 := shl2b e46 (by omega)
      have ql49 := shl2p e46 (by omega)
      refine N_icmp_ge (a := x29.toInt) (b := x45.toInt) 179 rfl rfl rfl rfl (fun c50 => ?_) (fun c50 => ?_)
      · have hPo : 0 < (h27.2 96 54).toInt := by
          by_cases cO : (h.1 97 4).toInt < 10
          · exact m38 cO (by omega)
          · exact m39 (by omega) (by rw [← ql49]; omega)
        exact R_vret rfl rfl ⟨hI, fr, ⟨by omega, trivial⟩, rfl⟩
      · refine R_lconst 1 rfl rfl ?_
        refine R_lstore (k := 4) [(4, .inr (.inl 1)), (3, .inl x29), (0, .inr (.inr (.inl 96))), (1, .inl a0), (2, .inl a1)] rfl rfl (by decide) ?_
        refine R_iconst 0 rfl rfl ?_
        refine R_istore (k := 6) [(6, .inl 0), (4, .inr (.inl 1)), (3, .inl x29), (0, .inr (.inr (.inl 96))), (1, .inl a0), (2, .inl a1)] rfl rfl (by decide) ?_
        have lp52 : ∀ (n51 : Nat) (h53 : PH) (w55 : Int64) (x56 : Int32), INV h53 → FR [96, 103, 104, 105, 106, 107, 108, 109, 110, 111, 112, 113, 114, 115, 116, 117, 118, 119] h h53 → FR [96, 106, 107, 108, 109, 110, 111, 112, 113, 114, 115, 116, 117, 118, 119] h27 h53 → 0 ≤ x56.toInt ∧ x56.toInt ≤ 8 → (h53.1 96 18).toInt = (h27.1 96 18).toInt → (h53.1 96 19).toInt = (h27.1 96 19).toInt → (w55.toInt ≤ (10 : Int) ^ x56.toInt.toNat) → (0 ≤ w55.toInt) → ((h.1 97 4).toInt < 10 → x29.toInt = 0 → 0 < w55.toInt) → (I4 (h.1 97 4).toInt a0.toInt x29.toInt w55.toInt) → (h53.2 96 54 = h27.2 96 54) → (8 - x56.toInt).toNat < n51 → RUN d_X9_laySlips 34 [(6, .inl x56), (4, .inr (.inl w55)), (3, .inl x29), (0, .inr (.inr (.inl 96))), (1, .inl a0), (2, .inl a1)] [] h53 (qg_X9_laySlips h a0 a1) := by
          intro n51
          induction n51 with
          | zero => intro h53 w55 x56 m58 m59 m60 m61 m62 m63 m64 m65 m66 m67 m68 hz; exact absurd hz (Nat.not_lt_zero _)
          | succ n51 ih57 =>
            intro h53 w55 x56 hI fr fl54 m61 m62 m63 m64 m65 m66 m67 m68 hz
            have s69 : (h53.1 97 4).toInt = (h27.1 97 4).toInt := by rw [(fl54 97 (by decide)).1]
            have s70 : (h53.1 97 5).toInt = (h27.1 97 5).toInt := by rw [(fl54 97 (by decide)).1]
            have s71 : (h53.1 97 0).toInt = (h27.1 97 0).toInt := by rw [(fl54 97 (by decide)).1]
            have s72 : (h53.1 97 1).toInt = (h27.1 97 1).toInt := by rw [(fl54 97 (by decide)).1]
            have fl28 : FR [96, 106, 107, 108, 109, 110, 111, 112, 113, 114, 115, 116, 117, 118, 119] h12 h53 := fl28.trans fl54 (by decide)
            have hO := m68
            refine R_iload (k := 6) rfl rfl ?_
            refine R_iload_n (k := 1) rfl rfl rfl ?_
            refine N_icmp_gt (a := x56.toInt) (b := a0.toInt) 103 rfl rfl rfl rfl (fun c73 => ?_) (fun c73 => ?_)
            · have vb74 := Int.le_trans m64 (p8 (by omega))
              refine R_lload (k := 4) rfl rfl ?_
              refine R_lconst 0 rfl rfl ?_
              refine N_lcmp (a := w55.toInt) (b := 0) rfl rfl (by decide) (fun x75 q76 => ?_)
              refine N_if_ne (a := x75.toInt) 113 rfl rfl rfl (fun c77 => ?_) (fun c77 => ?_)
              · refine R_aload_n (k := 0) rfl rfl rfl ?_
                refine R_iload_n (k := 1) rfl rfl rfl ?_
                refine R_callV (v := .inr (.inr (.inl 96))) (As := [.inl a0]) (rest := []) rfl mt_9_i304 pp_X9_goAll (by decide) rfl rfl rfl (Nat.le_of_ble_eq_true rfl) (Nat.le_of_ble_eq_true rfl) ((CALL_nl NLS_ok NL_X9_goAll (g_X9_goAll h53 hI a0 (by omega))).mono (fun r78 h79 p80 => ?_))
                obtain ⟨⟨hJ, fj, ⟨kp81, kp82, kp83, kp84, kp85, kp86, kp87, kp88, xq89, xq90, xq91, -⟩, rfl⟩, nl⟩ := p80
                have hO : h79.2 96 54 = h27.2 96 54 := (congrFun (congrFun nl 96) 54).trans hO
                have f92 := fj
                have fr := fr.trans fj (by decide)
                have hI := hJ
                have fl54 : FR [96, 106, 107, 108, 109, 110, 111, 112, 113, 114, 115, 116, 117, 118, 119] h27 h79 := fl54.trans fj (by decide)
                have fl28 : FR [96, 106, 107, 108, 109, 110, 111, 112, 113, 114, 115, 116, 117, 118, 119] h12 h79 := fl28.trans fj (by decide)
                have s93 : (h79.1 97 4).toInt = (h53.1 97 4).toInt := by rw [(f92 97 (by decide)).1]
                have s94 : (h79.1 97 5).toInt = (h53.1 97 5).toInt := by rw [(f92 97 (by decide)).1]
                have s95 : (h79.1 97 0).toInt = (h53.1 97 0).toInt := by rw [(f92 97 (by decide)).1]
                have s96 : (h79.1 97 1).toInt = (h53.1 97 1).toInt := by rw [(f92 97 (by decide)).1]
                show RUN d_X9_laySlips 118 [(6, .inl x56), (4, .inr (.inl w55)), (3, .inl x29), (0, .inr (.inr (.inl 96))), (1, .inl a0), (2, .inl a1)] [] h79 _
                refine R_aload_n (k := 0) rfl rfl rfl ?_
                refine R_dup_r rfl ?_
                refine R_getf_l (j := 54) rfl ft_9_479 sh_96 rfl ?_
                refine N_eqL (fun w97 e98 => ?_)
                have q99 : w97.toInt = (h79.2 96 54).toInt := by rw [e98]
                refine R_lload (k := 4) rfl rfl ?_
                refine R_ladd rfl ?_
                refine N_eqL (fun w100 e101 => ?_)
                have qo102 : w97.toInt = (h27.2 96 54).toInt := by rw [e98, hO]
                have qs103 : w100.toInt = w97.toInt + w55.toInt := by rw [e101]; exact l_add rfl rfl (by omega)
                refine K_putl (j := 54) rfl ft_9_479 sh_96 rfl hI fr (by decide) (fun h104 g105 hI fr => ?_)
                have fl54 : FR [96, 106, 107, 108, 109, 110, 111, 112, 113, 114, 115, 116, 117, 118, 119] h27 h104 := by rw [g105]; exact FR_wL _ _ fl54 (by decide)
                have fl28 : FR [96, 106, 107, 108, 109, 110, 111, 112, 113, 114, 115, 116, 117, 118, 119] h12 h104 := by rw [g105]; exact FR_wL _ _ fl28 (by decide)
                have s106 : (h104.1 97 4).toInt = (h79.1 97 4).toInt := by rw [g105, wL_fst]
                have s107 : (h104.1 97 5).toInt = (h79.1 97 5).toInt := by rw [g105, wL_fst]
                have s108 : (h104.1 97 0).toInt = (h79.1 97 0).toInt := by rw [g105, wL_fst]
                have s109 : (h104.1 97 1).toInt = (h79.1 97 1).toInt := by rw [g105, wL_fst]
                have s110 : (h104.1 96 18).toInt = (h79.1 96 18).toInt := by rw [g105, wL_fst]
                have s111 : (h104.1 96 19).toInt = (h79.1 96 19).toInt := by rw [g105, wL_fst]
                have hO : h104.2 96 54 = w100 := by rw [g105, wL_is]
                refine R_aload_n (k := 0) rfl rfl rfl ?_
                refine R_dup_r rfl ?_
                refine R_getf_l (j := 55) rfl ft_9_483 sh_96 rfl ?_
                refine N_eqL (fun w112 e113 => ?_)
                have q114 : w112.toInt = (h104.2 96 55).toInt := by rw [e113]
                refine R_aload_n (k := 0) rfl rfl rfl ?_
                refine R_getf_r (j := 28) rfl ft_9_64 sh_96 rfl ?_
                refine R_iload_n (k := 1) rfl rfl rfl ?_
                refine R_iald rfl sh_113 ⟨by omega, by omega⟩ ?_
                refine N_eq (fun x115 e116 => ?_)
                refine R_iload_n (k := 2) rfl rfl rfl ?_
                refine N_icmp_lt (a := x115.toInt) (b := a1.toInt) 149 rfl rfl rfl rfl (fun c117 => ?_) (fun c117 => ?_)
                · refine R_lconst 0 rfl rfl ?_
                  refine R_ladd rfl ?_
                  refine N_eqL (fun w118 e119 => ?_)
                  refine K_putl (j := 55) rfl ft_9_483 sh_96 rfl hI fr (by decide) (fun h120 g121 hI fr => ?_)
                  have fl54 : FR [96, 106, 107, 108, 109, 110, 111, 112, 113, 114, 115, 116, 117, 118, 119] h27 h120 := by rw [g121]; exact FR_wL _ _ fl54 (by decide)
                  have fl28 : FR [96, 106, 107, 108, 109, 110, 111, 112, 113, 114, 115, 116, 117, 118, 119] h12 h120 := by rw [g121]; exact FR_wL _ _ fl28 (by decide)
                  have s122 : (h120.1 97 4).toInt = (h104.1 97 4).toInt := by rw [g121, wL_fst]
                  have s123 : (h120.1 97 5).toInt = (h104.1 97 5).toInt := by rw [g121, wL_fst]
                  have s124 : (h120.1 97 0).toInt = (h104.1 97 0).toInt := by rw [g121, wL_fst]
                  have s125 : (h120.1 97 1).toInt = (h104.1 97 1).toInt := by rw [g121, wL_fst]
                  have s126 : (h120.1 96 18).toInt = (h104.1 96 18).toInt := by rw [g121, wL_fst]
                  have s127 : (h120.1 96 19).toInt = (h104.1 96 19).toInt := by rw [g121, wL_fst]
                  have hO : h120.2 96 54 = w100 := by rw [g121, wL_at (by decide)]; exact hO
                  refine R_aload_n (k := 0) rfl rfl rfl ?_
                  refine R_dup_r rfl ?_
                  refine R_getf_l (j := 56) rfl ft_9_486 sh_96 rfl ?_
                  refine N_eqL (fun w128 e129 => ?_)
                  have q130 : w128.toInt = (h120.2 96 56).toInt := by rw [e129]
                  refine R_lload (k := 4) rfl rfl ?_
                  refine R_aload_n (k := 0) rfl rfl rfl ?_
                  refine R_getf_r (j := 29) rfl ft_9_67 sh_96 rfl ?_
                  refine R_iload_n (k := 1) rfl rfl rfl ?_
                  refine R_iald rfl sh_114 ⟨by omega, by omega⟩ ?_
                  refine N_eq (fun x131 e132 => ?_)
                  refine N_i2l rfl (fun w133 q134 => ?_)
                  refine R_lmul rfl ?_
                  refine N_eqL (fun w135 e136 => ?_)
                  refine R_ladd rfl ?_
                  refine N_eqL (fun w137 e138 => ?_)
                  refine K_putl (j := 56) rfl ft_9_486 sh_96 rfl hI fr (by decide) (fun h139 g140 hI fr => ?_)
                  have fl54 : FR [96, 106, 107, 108, 109, 110, 111, 112, 113, 114, 115, 116, 117, 118, 119] h27 h139 := by rw [g140]; exact FR_wL _ _ fl54 (by decide)
                  have fl28 : FR [96, 106, 107, 108, 109, 110, 111, 112, 113, 114, 115, 116, 117, 118, 119] h12 h139 := by rw [g140]; exact FR_wL _ _ fl28 (by decide)
                  have s141 : (h139.1 97 4).toInt = (h120.1 97 4).toInt := by rw [g140, wL_fst]
                  have s142 : (h139.1 97 5).toInt = (h120.1 97 5).toInt := by rw [g140, wL_fst]
                  have s143 : (h139.1 97 0).toInt = (h120.1 97 0).toInt := by rw [g140, wL_fst]
                  have s144 : (h139.1 97 1).toInt = (h120.1 97 1).toInt := by rw [g140, wL_fst]
                  have s145 : (h139.1 96 18).toInt = (h120.1 96 18).toInt := by rw [g140, wL_fst]
                  have s146 : (h139.1 96 19).toInt = (h120.1 96 19).toInt := by rw [g140, wL_fst]
                  have hO : h139.2 96 54 = w100 := by rw [g140, wL_at (by decide)]; exact hO
                  refine N_iinc (a := x29.toInt) (c := 1) (fun w => [(3, .inl w), (6, .inl x56), (4, .inr (.inl w55)), (0, .inr (.inr (.inl 96))), (1, .inl a0), (2, .inl a1)]) rfl rfl (fun _ => rfl) (by decide) rfl (by decide) (by omega) (fun x147 q148 => ?_)
                  refine R_goto 21 rfl rfl ?_
                  have qo149 : (h139.2 96 54).toInt = (w100).toInt := by rw [hO]
                  exact RUN_weak (psub_cons rfl (psub_cons rfl (psub_cons rfl (psub_cons rfl (psub_nil _))))) (ih30 h139 x147 hI fr fl28 (by omega) (by omega) (by omega) (by omega) (by omega) (I3_B (by omega)) (trivial) (by omega))
                · refine R_lload (k := 4) rfl rfl ?_
                  refine R_goto 150 rfl rfl ?_
                  refine R_ladd rfl ?_
                  refine N_eqL (fun w150 e151 => ?_)
                  refine K_putl (j := 55) rfl ft_9_483 sh_96 rfl hI fr (by decide) (fun h152 g153 hI fr => ?_)
                  have fl54 : FR [96, 106, 107, 108, 109, 110, 111, 112, 113, 114, 115, 116, 117, 118, 119] h27 h152 := by rw [g153]; exact FR_wL _ _ fl54 (by decide)
                  have fl28 : FR [96, 106, 107, 108, 109, 110, 111, 112, 113, 114, 115, 116, 117, 118, 119] h12 h152 := by rw [g153]; exact FR_wL _ _ fl28 (by decide)
                  have s154 : (h152.1 97 4).toInt = (h104.1 97 4).toInt := by rw [g153, wL_fst]
                  have s155 : (h152.1 97 5).toInt = (h104.1 97 5).toInt := by rw [g153, wL_fst]
                  have s156 : (h152.1 97 0).toInt = (h104.1 97 0).toInt := by rw [g153, wL_fst]
                  have s157 : (h152.1 97 1).toInt = (h104.1 97 1).toInt := by rw [g153, wL_fst]
                  have s158 : (h152.1 96 18).toInt = (h104.1 96 18).toInt := by rw [g153, wL_fst]
                  have s159 : (h152.1 96 19).toInt = (h104.1 96 19).toInt := by rw [g153, wL_fst]
                  have hO : h152.2 96 54 = w100 := by rw [g153, wL_at (by decide)]; exact hO
                  refine R_aload_n (k := 0) rfl rfl rfl ?_
                  refine R_dup_r rfl ?_
                  refine R_getf_l (j := 56) rfl ft_9_486 sh_96 rfl ?_
                  refine N_eqL (fun w160 e161 => ?_)
                  have q162 : w160.toInt = (h152.2 96 56).toInt := by rw [e161]
                  refine R_lload (k := 4) rfl rfl ?_
                  refine R_aload_n (k := 0) rfl rfl rfl ?_
                  refine R_getf_r (j := 29) rfl ft_9_67 sh_96 rfl ?_
                  refine R_iload_n (k := 1) rfl rfl rfl ?_
                  refine R_iald rfl sh_114 ⟨by omega, by omega⟩ ?_
                  refine N_eq (fun x163 e164 => ?_)
                  refine N_i2l rfl (fun w165 q166 => ?_)
                  refine R_lmul rfl ?_
                  refine N_eqL (fun w167 e168 => ?_)
                  refine R_ladd rfl ?_
                  refine N_eqL (fun w169 e170 => ?_)
                  refine K_putl (j := 56) rfl ft_9_486 sh_96 rfl hI fr (by decide) (fun h171 g172 hI fr => ?_)
                  have fl54 : FR [96, 106, 107, 108, 109, 110, 111, 112, 113, 114, 115, 116, 117, 118, 119] h27 h171 := by rw [g172]; exact FR_wL _ _ fl54 (by decide)
                  have fl28 : FR [96, 106, 107, 108, 109, 110, 111, 112, 113, 114, 115, 116, 117, 118, 119] h12 h171 := by rw [g172]; exact FR_wL _ _ fl28 (by decide)
                  have s173 : (h171.1 97 4).toInt = (h152.1 97 4).toInt := by rw [g172, wL_fst]
                  have s174 : (h171.1 97 5).toInt = (h152.1 97 5).toInt := by rw [g172, wL_fst]
                  have s175 : (h171.1 97 0).toInt = (h152.1 97 0).toInt := by rw [g172, wL_fst]
                  have s176 : (h171.1 97 1).toInt = (h152.1 97 1).toInt := by rw [g172, wL_fst]
                  have s177 : (h171.1 96 18).toInt = (h152.1 96 18).toInt := by rw [g172, wL_fst]
                  have s178 : (h171.1 96 19).toInt = (h152.1 96 19).toInt := by rw [g172, wL_fst]
                  have hO : h171.2 96 54 = w100 := by rw [g172, wL_at (by decide)]; exact hO
                  refine N_iinc (a := x29.toInt) (c := 1) (fun w => [(3, .inl w), (6, .inl x56), (4, .inr (.inl w55)), (0, .inr (.inr (.inl 96))), (1, .inl a0), (2, .inl a1)]) rfl rfl (fun _ => rfl) (by decide) rfl (by decide) (by omega) (fun x179 q180 => ?_)
                  refine R_goto 21 rfl rfl ?_
                  have qo181 : (h171.2 96 54).toInt = (w100).toInt := by rw [hO]
                  exact RUN_weak (psub_cons rfl (psub_cons rfl (psub_cons rfl (psub_cons rfl (psub_nil _))))) (ih30 h171 x179 hI fr fl28 (by omega) (by omega) (by omega) (by omega) (by omega) (I3_B (by omega)) (trivial) (by omega))
              · refine R_goto 173 rfl rfl ?_
                refine N_iinc (a := x29.toInt) (c := 1) (fun w => [(3, .inl w), (6, .inl x56), (4, .inr (.inl w55)), (0, .inr (.inr (.inl 96))), (1, .inl a0), (2, .inl a1)]) rfl rfl (fun _ => rfl) (by decide) rfl (by decide) (by omega) (fun x182 q183 => ?_)
                refine R_goto 21 rfl rfl ?_
                have qo184 : (h53.2 96 54).toInt = (h27.2 96 54).toInt := by rw [hO]
                exact RUN_weak (psub_cons rfl (psub_cons rfl (psub_cons rfl (psub_cons rfl (psub_nil _))))) (ih30 h53 x182 hI fr fl28 (by omega) (by omega) (by omega) (by omega) (by omega) (I3_A m67 (by omega) ql49 (by omega) (by omega)) (trivial) (by omega))
            · refine R_aload_n (k := 0) rfl rfl rfl ?_
              refine R_getf_r (j := 21) rfl ft_9_43 sh_96 rfl ?_
              refine R_iload (k := 6) rfl rfl ?_
              refine R_iload_n (k := 3) rfl rfl rfl ?_
              refine R_iload (k := 6) rfl rfl ?_
              refine R_callS (As := [.inl x29, .inl x56]) (rest := [.inl x56, .inr (.inr (.inl 106))]) rfl mt_9_i292 (by decide) pp_X9_bit (by decide) rfl rfl (Nat.le_of_ble_eq_true rfl) (Nat.le_of_ble_eq_true rfl) ((g_X9_bit h53 hI x29 x56 (by omega)).mono (fun r185 h186 p187 => ?_))
              obtain ⟨rfl, x190, rfl, q191, zq188, zq189, -⟩ := p187
              show RUN d_X9_laySlips 52 [(6, .inl x56), (4, .inr (.inl w55)), (3, .inl x29), (0, .inr (.inr (.inl 96))), (1, .inl a0), (2, .inl a1)] [.inl x190, .inl x56, .inr (.inr (.inl 106))] h53 _
              refine R_iconst 1 rfl rfl ?_
              refine N_icmp_ne (a := x190.toInt) (b := 1) 60 rfl rfl rfl (by decide) (fun c192 => ?_) (fun c192 => ?_)
              · refine R_iconst 0 rfl rfl ?_
                refine K_zast (a := x56.toInt) rfl sh_106 rfl ⟨by omega, by omega⟩ hI (by decide) rfl fr (by decide) (fun h193 g194 hI fr => ?_)
                have fl54 : FR [96, 106, 107, 108, 109, 110, 111, 112, 113, 114, 115, 116, 117, 118, 119] h27 h193 := by rw [g194]; exact FR_wI _ _ fl54 (by decide)
                have fl28 : FR [96, 106, 107, 108, 109, 110, 111, 112, 113, 114, 115, 116, 117, 118, 119] h12 h193 := by rw [g194]; exact FR_wI _ _ fl28 (by decide)
                have s195 : (h193.1 97 4).toInt = (h53.1 97 4).toInt := by rw [g194, wI_ne _ _ _ (by decide)]
                have s196 : (h193.1 97 5).toInt = (h53.1 97 5).toInt := by rw [g194, wI_ne _ _ _ (by decide)]
                have s197 : (h193.1 97 0).toInt = (h53.1 97 0).toInt := by rw [g194, wI_ne _ _ _ (by decide)]
                have s198 : (h193.1 97 1).toInt = (h53.1 97 1).toInt := by rw [g194, wI_ne _ _ _ (by decide)]
                have s199 : (h193.1 96 18).toInt = (h53.1 96 18).toInt := by rw [g194, wI_ne _ _ _ (by decide)]
                have s200 : (h193.1 96 19).toInt = (h53.1 96 19).toInt := by rw [g194, wI_ne _ _ _ (by decide)]
                have hO : h193.2 96 54 = h27.2 96 54 := by rw [g194]; exact hO
                refine R_lload (k := 4) rfl rfl ?_
                refine R_aload_n (k := 0) rfl rfl rfl ?_
                refine R_getf_r (j := 21) rfl ft_9_43 sh_96 rfl ?_
                refine R_iload (k := 6) rfl rfl ?_
                refine R_zald rfl sh_106 ⟨by omega, by omega⟩ ?_
                refine N_eq (fun x201 e202 => ?_)
                have qz203 : x201.toInt = 0 := by rw [e202, g194, wI_is]; decide
                refine N_if_eq (a := x201.toInt) 84 rfl rfl rfl (fun c204 => ?_) (fun c204 => ?_)
                · refine R_bipush 10 rfl rfl ?_
                  refine R_aload_n (k := 0) rfl rfl rfl ?_
                  refine R_getf_r (j := 1) rfl ft_9_9 sh_96 rfl ?_
                  refine R_iconst 4 rfl rfl ?_
                  refine R_iald rfl sh_97 (by decide) ?_
                  show RUN d_X9_laySlips 92 [(6, .inl x56), (4, .inr (.inl w55)), (3, .inl x29), (0, .inr (.inr (.inl 96))), (1, .inl a0), (2, .inl a1)] [.inl (h193.1 97 4), .inl 10, .inr (.inl w55)] h193 _
                  refine R_isub rfl ?_
                  refine N_eq (fun x205 e206 => ?_)
                  have q207 : x205.toInt = 10 - (h193.1 97 4).toInt := by rw [e206]; exact i_sub (by decide) rfl (by omega)
                  refine N_i2l rfl (fun w208 q209 => ?_)
                  refine R_lmul rfl ?_
                  refine N_eqL (fun w210 e211 => ?_)
                  obtain ⟨mv1, mv2, mv3⟩ := mulv (n := x56.toInt.toNat) e211 (by omega) m64 (by omega) (by omega)
                  refine R_lstore (k := 4) [(4, .inr (.inl w210)), (6, .inl x56), (3, .inl x29), (0, .inr (.inr (.inl 96))), (1, .inl a0), (2, .inl a1)] rfl rfl (by decide) ?_
                  refine N_iinc (a := x56.toInt) (c := 1) (fun w => [(6, .inl w), (4, .inr (.inl w210)), (3, .inl x29), (0, .inr (.inr (.inl 96))), (1, .inl a0), (2, .inl a1)]) rfl rfl (fun _ => rfl) (by decide) rfl (by decide) (by omega) (fun x212 q213 => ?_)
                  refine R_goto 34 rfl rfl ?_
                  exact RUN_weak (psub_cons rfl (psub_cons rfl (psub_cons rfl (psub_cons rfl (psub_cons rfl (psub_cons rfl (psub_nil _))))))) (ih57 h193 w210 x212 hI fr fl54 (by omega) (by omega) (by omega) (by rw [show x212.toInt.toNat = x56.toInt.toNat + 1 by omega]; exact mv2) (by omega) (by omega) (I4_n (k := x56.toInt) zq189 (by omega) (by omega) (by omega)) (hO) (by omega))
                · refine R_aload_n (k := 0) rfl rfl rfl ?_
                  refine R_getf_r (j := 1) rfl ft_9_9 sh_96 rfl ?_
                  refine R_iconst 4 rfl rfl ?_
                  refine R_iald rfl sh_97 (by decide) ?_
                  show RUN d_X9_laySlips 80 [(6, .inl x56), (4, .inr (.inl w55)), (3, .inl x29), (0, .inr (.inr (.inl 96))), (1, .inl a0), (2, .inl a1)] [.inl (h193.1 97 4), .inr (.inl w55)] h193 _
                  refine N_i2l rfl (fun w214 q215 => ?_)
                  refine R_goto 94 rfl rfl ?_
                  refine R_lmul rfl ?_
                  refine N_eqL (fun w216 e217 => ?_)
                  obtain ⟨mv1, mv2, mv3⟩ := mulv (n := x56.toInt.toNat) e217 (by omega) m64 (by omega) (by omega)
                  refine R_lstore (k := 4) [(4, .inr (.inl w216)), (6, .inl x56), (3, .inl x29), (0, .inr (.inr (.inl 96))), (1, .inl a0), (2, .inl a1)] rfl rfl (by decide) ?_
                  refine N_iinc (a := x56.toInt) (c := 1) (fun w => [(6, .inl w), (4, .inr (.inl w216)), (3, .inl x29), (0, .inr (.inr (.inl 96))), (1, .inl a0), (2, .inl a1)]) rfl rfl (fun _ => rfl) (by decide) rfl (by decide) (by omega) (fun x218 q219 => ?_)
                  refine R_goto 34 rfl rfl ?_
                  exact RUN_weak (psub_cons rfl (psub_cons rfl (psub_cons rfl (psub_cons rfl (psub_cons rfl (psub_cons rfl (psub_nil _))))))) (ih57 h193 w216 x218 hI fr fl54 (by omega) (by omega) (by omega) (by rw [show x218.toInt.toNat = x56.toInt.toNat + 1 by omega]; exact mv2) (by omega) (by omega) (I4_n (k := x56.toInt) zq189 (by omega) (by omega) (by omega)) (hO) (by omega))
              · refine R_iconst 1 rfl rfl ?_
                refine R_goto 61 rfl rfl ?_
                refine K_zast (a := x56.toInt) rfl sh_106 rfl ⟨by omega, by omega⟩ hI (by decide) rfl fr (by decide) (fun h220 g221 hI fr => ?_)
                have fl54 : FR [96, 106, 107, 108, 109, 110, 111, 112, 113, 114, 115, 116, 117, 118, 119] h27 h220 := by rw [g221]; exact FR_wI _ _ fl54 (by decide)
                have fl28 : FR [96, 106, 107, 108, 109, 110, 111, 112, 113, 114, 115, 116, 117, 118, 119] h12 h220 := by rw [g221]; exact FR_wI _ _ fl28 (by decide)
                have s222 : (h220.1 97 4).toInt = (h53.1 97 4).toInt := by rw [g221, wI_ne _ _ _ (by decide)]
                have s223 : (h220.1 97 5).toInt = (h53.1 97 5).toInt := by rw [g221, wI_ne _ _ _ (by decide)]
                have s224 : (h220.1 97 0).toInt = (h53.1 97 0).toInt := by rw [g221, wI_ne _ _ _ (by decide)]
                have s225 : (h220.1 97 1).toInt = (h53.1 97 1).toInt := by rw [g221, wI_ne _ _ _ (by decide)]
                have s226 : (h220.1 96 18).toInt = (h53.1 96 18).toInt := by rw [g221, wI_ne _ _ _ (by decide)]
                have s227 : (h220.1 96 19).toInt = (h53.1 96 19).toInt := by rw [g221, wI_ne _ _ _ (by decide)]
                have hO : h220.2 96 54 = h27.2 96 54 := by rw [g221]; exact hO
                refine R_lload (k := 4) rfl rfl ?_
                refine R_aload_n (k := 0) rfl rfl rfl ?_
                refine R_getf_r (j := 21) rfl ft_9_43 sh_96 rfl ?_
                refine R_iload (k := 6) rfl rfl ?_
                refine R_zald rfl sh_106 ⟨by omega, by omega⟩ ?_
                refine N_eq (fun x228 e229 => ?_)
                have qz230 : x228.toInt = 1 := by rw [e229, g221, wI_is]; decide
                refine N_if_eq (a := x228.toInt) 84 rfl rfl rfl (fun c231 => ?_) (fun c231 => ?_)
                · refine R_bipush 10 rfl rfl ?_
                  refine R_aload_n (k := 0) rfl rfl rfl ?_
                  refine R_getf_r (j := 1) rfl ft_9_9 sh_96 rfl ?_
                  refine R_iconst 4 rfl rfl ?_
                  refine R_iald rfl sh_97 (by decide) ?_
                  show RUN d_X9_laySlips 92 [(6, .inl x56), (4, .inr (.inl w55)), (3, .inl x29), (0, .inr (.inr (.inl 96))), (1, .inl a0), (2, .inl a1)] [.inl (h220.1 97 4), .inl 10, .inr (.inl w55)] h220 _
                  refine R_isub rfl ?_
                  refine N_eq (fun x232 e233 => ?_)
                  have q234 : x232.toInt = 10 - (h220.1 97 4).toInt := by rw [e233]; exact i_sub (by decide) rfl (by omega)
                  refine N_i2l rfl (fun w235 q236 => ?_)
                  refine R_lmul rfl ?_
                  refine N_eqL (fun w237 e238 => ?_)
                  obtain ⟨mv1, mv2, mv3⟩ := mulv (n := x56.toInt.toNat) e238 (by omega) m64 (by omega) (by omega)
                  refine R_lstore (k := 4) [(4, .inr (.inl w237)), (6, .inl x56), (3, .inl x29), (0, .inr (.inr (.inl 96))), (1, .inl a0), (2, .inl a1)] rfl rfl (by decide) ?_
                  refine N_iinc (a := x56.toInt) (c := 1) (fun w => [(6, .inl w), (4, .inr (.inl w237)), (3, .inl x29), (0, .inr (.inr (.inl 96))), (1, .inl a0), (2, .inl a1)]) rfl rfl (fun _ => rfl) (by decide) rfl (by decide) (by omega) (fun x239 q240 => ?_)
                  refine R_goto 34 rfl rfl ?_
                  exact RUN_weak (psub_cons rfl (psub_cons rfl (psub_cons rfl (psub_cons rfl (psub_cons rfl (psub_cons rfl (psub_nil _))))))) (ih57 h220 w237 x239 hI fr fl54 (by omega) (by omega) (by omega) (by rw [show x239.toInt.toNat = x56.toInt.toNat + 1 by omega]; exact mv2) (by omega) (by omega) (I4_1 m67 mv3 (by omega)) (hO) (by omega))
                · refine R_aload_n (k := 0) rfl rfl rfl ?_
                  refine R_getf_r (j := 1) rfl ft_9_9 sh_96 rfl ?_
                  refine R_iconst 4 rfl rfl ?_
                  refine R_iald rfl sh_97 (by decide) ?_
                  show RUN d_X9_laySlips 80 [(6, .inl x56), (4, .inr (.inl w55)), (3, .inl x29), (0, .inr (.inr (.inl 96))), (1, .inl a0), (2, .inl a1)] [.inl (h220.1 97 4), .inr (.inl w55)] h220 _
                  refine N_i2l rfl (fun w241 q242 => ?_)
                  refine R_goto 94 rfl rfl ?_
                  refine R_lmul rfl ?_
                  refine N_eqL (fun w243 e244 => ?_)
                  obtain ⟨mv1, mv2, mv3⟩ := mulv (n := x56.toInt.toNat) e244 (by omega) m64 (by omega) (by omega)
                  refine R_lstore (k := 4) [(4, .inr (.inl w243)), (6, .inl x56), (3, .inl x29), (0, .inr (.inr (.inl 96))), (1, .inl a0), (2, .inl a1)] rfl rfl (by decide) ?_
                  refine N_iinc (a := x56.toInt) (c := 1) (fun w => [(6, .inl w), (4, .inr (.inl w243)), (3, .inl x29), (0, .inr (.inr (.inl 96))), (1, .inl a0), (2, .inl a1)]) rfl rfl (fun _ => rfl) (by decide) rfl (by decide) (by omega) (fun x245 q246 => ?_)
                  refine R_goto 34 rfl rfl ?_
                  exact RUN_weak (psub_cons rfl (psub_cons rfl (psub_cons rfl (psub_cons rfl (psub_cons rfl (psub_cons rfl (psub_nil _))))))) (ih57 h220 w243 x245 hI fr fl54 (by omega) (by omega) (by omega) (by rw [show x245.toInt.toNat = x56.toInt.toNat + 1 by omega]; exact mv2) (by omega) (by omega) (I4_1 m67 mv3 (by omega)) (hO) (by omega))
        have k247 : (1 : Int64).toInt = 1 := by decide
        have k248 : (0 : Int32).toInt = 0 := by decide
        exact lp52 _ h27 (1 : Int64) (0 : Int32) hI fr (FR.rf _ _) (by decide) rfl rfl (by decide) (by omega) (by omega) (I4_0 (by decide)) (hO) (Nat.lt_succ_self _)
  have k249 : (0 : Int32).toInt = 0 := by decide
  have qo250 : (h12.2 96 54).toInt = 0 := by rw [hO]; decide
  exact lp26 _ h12 (0 : Int32) hI fr (FR.rf _ _) (by decide) rfl rfl (by omega) (by omega) (I3_0) (trivial) (Nat.lt_succ_self _)
