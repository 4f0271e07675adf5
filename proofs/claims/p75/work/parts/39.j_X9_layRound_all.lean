abbrev qg_X9_layRound (h : PH)  : Option PV → PH → Prop := fun r h' => INV h' ∧ FR [96, 103, 104, 105, 106, 107, 108, 109, 117, 118, 121, 122] h h' ∧ ((1 ≤ (h'.1 96 42).toInt) ∧ True) ∧ r = none
set_option maxHeartbeats 4000000 in
set_option maxRecDepth 100000 in
theorem g_X9_layRound (h : PH) (hI : INV h)  : CALL d_X9_layRound [.inr (.inr (.inl 96))] h (qg_X9_layRound h) := by
  show RUN d_X9_layRound 0 [(0, .inr (.inr (.inl 96)))] [] h _
  have fr : FR [96, 103, 104, 105, 106, 107, 108, 109, 117, 118, 121, 122] h h := FR.rf _ _
  have b1 : (0 : Int) ≤ (h.1 97 1).toInt ∧ (h.1 97 1).toInt ≤ 8 := hI.1 97 1
  refine R_aload_n (k := 0) rfl rfl rfl ?_
  refine R_callV (v := .inr (.inr (.inl 96))) (As := []) (rest := []) rfl mt_9_i298 pp_X9_asItIs (by decide) rfl rfl rfl (Nat.le_of_ble_eq_true rfl) (Nat.le_of_ble_eq_true rfl) ((g_X9_asItIs h hI).mono (fun r2 h3 p4 => ?_))
  obtain ⟨hJ, fj, ⟨kp5, xq6, xq7, xq8, -⟩, rfl⟩ := p4
  have f9 := fj
  have fr := fr.trans fj (by decide)
  have hI := hJ
  have s10 : (h3.1 97 1).toInt = (h.1 97 1).toInt := by rw [(f9 97 (by decide)).1]
  have b11 : (0 : Int) ≤ (h3.1 97 5).toInt ∧ (h3.1 97 5).toInt ≤ 6 := hI.1 97 5
  have b12 : (0 : Int) ≤ (h3.1 97 0).toInt ∧ (h3.1 97 0).toInt ≤ 60 := hI.1 97 0
  have e13 : 0 < (h3.1 97 5).toInt → 1 ≤ (h3.1 97 0).toInt := hI.2.2.2.2.2.1.2.2
  have b14 : (0 : Int) ≤ (h3.1 96 18).toInt ∧ (h3.1 96 18).toInt ≤ 6 := hI.1 96 18
  show RUN d_X9_layRound 4 [(0, .inr (.inr (.inl 96)))] [] h3 _
  have hA := xq6
  refine R_iconst 0 rfl rfl ?_
  refine R_istore_n (k := 1) rfl [(1, .inl 0), (0, .inr (.inr (.inl 96)))] rfl rfl (by decide) ?_
  have lp16 : ∀ (n15 : Nat) (h17 : PH) (x19 : Int32), INV h17 → FR [96, 103, 104, 105, 106, 107, 108, 109, 117, 118, 121, 122] h h17 → FR [96, 104, 107, 108, 109, 117, 118, 121, 122] h3 h17 → 0 ≤ x19.toInt ∧ x19.toInt ≤ 360 → (h17.1 96 18).toInt = (h3.1 96 18).toInt → (h17.1 96 19).toInt = (h3.1 96 19).toInt → True → (∀ j : Nat, (j : Int) < x19.toInt → (h17.1 104 j).toInt = 0) → (AIS h17) → (360 - x19.toInt).toNat < n15 → RUN d_X9_layRound 6 [(1, .inl x19), (0, .inr (.inr (.inl 96)))] [] h17 (qg_X9_layRound h) := by
    intro n15
    induction n15 with
    | zero => intro h17 x19 m21 m22 m23 m24 m25 m26 m27 m28 m29 hz; exact absurd hz (Nat.not_lt_zero _)
    | succ n15 ih20 =>
      intro h17 x19 hI fr fl18 m24 m25 m26 m27 m28 m29 hz
      have s30 : (h17.1 97 1).toInt = (h3.1 97 1).toInt := by rw [(fl18 97 (by decide)).1]
      have s31 : (h17.1 97 5).toInt = (h3.1 97 5).toInt := by rw [(fl18 97 (by decide)).1]
      have s32 : (h17.1 97 0).toInt = (h3.1 97 0).toInt := by rw [(fl18 97 (by decide)).1]
      have rq33 : h17.1 121 = h17.1 121 := rfl
      have rq34 : h17.1 122 = h17.1 122 := rfl
      have hA := m29
      refine R_iload_n (k := 1) rfl rfl rfl ?_
      refine R_sipush 360 rfl rfl ?_
      refine N_icmp_ge (a := x19.toInt) (b := 360) 26 rfl rfl rfl (by decide) (fun c35 => ?_) (fun c35 => ?_)
      · have b36 : (0 : Int) ≤ (h17.1 97 3).toInt ∧ (h17.1 97 3).toInt ≤ 20 := hI.1 97 3
        obtain ⟨e0, hE⟩ : ∃ e0, evOf h17 = e0 := ⟨_, rfl⟩
        have hK : kyOf h17 = kyOf h17 := rfl
        obtain ⟨m, hm⟩ : ∃ m : Nat, (h17.1 96 18).toInt = (m : Int) := ⟨(h17.1 96 18).toInt.toNat, by omega⟩
        obtain ⟨r, hr⟩ : ∃ r : Nat, (h17.1 97 3).toInt + 1 = (r : Int) := ⟨((h17.1 97 3).toInt + 1).toNat, by omega⟩
        obtain ⟨P, hP⟩ : ∃ P : Nat → Int, P = fun p => (h17.1 103 p).toInt := ⟨_, rfl⟩
        have hPb : ∀ q, q < 6 → 0 ≤ P q ∧ P q ≤ 6 := fun q hq => by rw [hP]; exact (hA q hq).1
        have hEN : EN e0 m r P := by rw [← hE]; exact ⟨fun j hj => m28 j (by omega), fun p hp => (hA p hp).2, hm, by omega, hr, by omega, fun p hp => congrFun hP.symm p⟩
        have hBk : 0 ≤ (eBuck e0).toInt ∧ (eBuck e0).toInt ≤ 8 := by rw [← hE]; exact ⟨by show 0 ≤ (h17.1 96 19).toInt; omega, by show (h17.1 96 19).toInt ≤ 8; omega⟩
        have hto := ab_to hEN (fun q hq => (hPb q hq).1) (by omega) hBk
        obtain ⟨B, hB⟩ : ∃ B, (eBuck e0).toInt = B := ⟨_, rfl⟩
        rw [hB] at hBk hto
        obtain ⟨mu, lam, hl1, hl2, hcy⟩ := wq_cycle (B := B) hBk hPb (show m ≤ 6 by omega) (show 1 ≤ r by omega) (show r < 22 by omega)
        have hV := JV_wq (P := P) (m := m) (r := r) (B := B) hBk.1 (fun q hq => (hPb q hq).1) (by omega) (by omega) (by omega)
        have hto0 : AB (zTo e0 ((0 : Int32).toInt + 1).toNat) = wq P m r B 0 := by rw [show ((0 : Int32).toInt + 1).toNat = 0 + 1 by decide]; exact hto 0 (by omega)
        have hLR : LR e0 m r P B mu lam := ⟨hEN, hPb, hBk.2, hl1, hl2, hcy, hV, hto⟩
        refine R_iconst 1 rfl rfl ?_
        refine R_istore_n (k := 1) rfl [(1, .inl 1), (0, .inr (.inr (.inl 96)))] rfl rfl (by decide) ?_
        refine R_aload_n (k := 0) rfl rfl rfl ?_
        refine R_iconst 0 rfl rfl ?_
        have k37 : (0 : Int32).toInt = 0 := by decide
        refine R_callV (v := .inr (.inr (.inl 96))) (As := [.inl 0]) (rest := []) rfl mt_9_i348 pp_X9_goTo (by decide) rfl rfl rfl (Nat.le_of_ble_eq_true rfl) (Nat.le_of_ble_eq_true rfl) ((g_X9_goTo h17 hI (0 : Int32) (by decide)).mono (fun r38 h39 p40 => ?_))
        obtain ⟨hJ, fj, ⟨kp41, xq42, xq43, -⟩, rfl⟩ := p40
        have f44 := fj
        have fr := fr.trans fj (by decide)
        have hI := hJ
        have fl18 : FR [96, 104, 107, 108, 109, 117, 118, 121, 122] h3 h39 := fl18.trans fj (by decide)
        have s45 : (h39.1 97 1).toInt = (h17.1 97 1).toInt := by rw [(f44 97 (by decide)).1]
        have s46 : (h39.1 97 5).toInt = (h17.1 97 5).toInt := by rw [(f44 97 (by decide)).1]
        have s47 : (h39.1 97 0).toInt = (h17.1 97 0).toInt := by rw [(f44 97 (by decide)).1]
        have s48 : (h39.1 97 3).toInt = (h17.1 97 3).toInt := by rw [(f44 97 (by decide)).1]
        have rq49 : h39.1 121 = h17.1 121 := (f44 121 (by decide)).1.trans rq33
        have rq50 : h39.1 122 = h17.1 122 := (f44 122 (by decide)).1.trans rq34
        have hK : kyOf h39 = zTo e0 ((0 : Int32).toInt + 1).toNat := by rw [xq42, hE]
        have hE : evOf h39 = e0 := xq43.trans hE
        show RUN d_X9_layRound 33 [(1, .inl 1), (0, .inr (.inr (.inl 96)))] [] h39 _
        refine R_aload_n (k := 0) rfl rfl rfl ?_
        refine R_aload_n (k := 0) rfl rfl rfl ?_
        refine R_getf_r (j := 39) rfl ft_9_88 sh_96 rfl ?_
        refine R_callV (v := .inr (.inr (.inl 96))) (As := [.inr (.inr (.inl 121))]) (rest := []) rfl mt_9_i351 pp_X9_keepState (by decide) rfl rfl rfl (Nat.le_of_ble_eq_true rfl) (Nat.le_of_ble_eq_true rfl) ((g_X9_keepState h39 hI).mono (fun r51 h52 p53 => ?_))
        obtain ⟨hJ, fj, ⟨xq54, xq55, xq56, xq57, -⟩, rfl⟩ := p53
        have f58 := fj
        have fr := fr.trans fj (by decide)
        have hI := hJ
        have fl18 : FR [96, 104, 107, 108, 109, 117, 118, 121, 122] h3 h52 := fl18.trans fj (by decide)
        have s59 : (h52.1 96 42).toInt = (h39.1 96 42).toInt := by rw [(f58 96 (by decide)).1]
        have s60 : (h52.1 97 1).toInt = (h39.1 97 1).toInt := by rw [(f58 97 (by decide)).1]
        have s61 : (h52.1 97 5).toInt = (h39.1 97 5).toInt := by rw [(f58 97 (by decide)).1]
        have s62 : (h52.1 97 0).toInt = (h39.1 97 0).toInt := by rw [(f58 97 (by decide)).1]
        have s63 : (h52.1 97 3).toInt = (h39.1 97 3).toInt := by rw [(f58 97 (by decide)).1]
        have rq64 : h52.1 122 = h17.1 122 := (f58 122 (by decide)).1.trans rq50
        rw [hK, hE] at xq54
        rw [hK] at xq55
        have hK : kyOf h52 = zTo e0 ((0 : Int32).toInt + 1).toNat := xq56.trans hK
        have hE : evOf h52 = e0 := xq57.trans hE
        show RUN d_X9_layRound 41 [(1, .inl 1), (0, .inr (.inr (.inl 96)))] [] h52 _
        refine R_aload_n (k := 0) rfl rfl rfl ?_
        refine R_iconst 1 rfl rfl ?_
        refine R_iconst 0 rfl rfl ?_
        have k65 : (1 : Int32).toInt = 1 := by decide
        have k66 : (0 : Int32).toInt = 0 := by decide
        refine R_callV (v := .inr (.inr (.inl 96))) (As := [.inl 1, .inl 0]) (rest := []) rfl mt_9_i288 pp_X9_goSecond (by decide) rfl rfl rfl (Nat.le_of_ble_eq_true rfl) (Nat.le_of_ble_eq_true rfl) ((g_X9_goSecond h52 hI (1 : Int32) (0 : Int32) (by decide)).mono (fun r67 h68 p69 => ?_))
        obtain ⟨hJ, fj, ⟨kp70, kp71, kp72, kp73, kp74, kp75, kp76, kp77, kp78, kp79, xq80, xq81, -⟩, rfl⟩ := p69
        have f82 := fj
        have fr := fr.trans fj (by decide)
        have hI := hJ
        have fl18 : FR [96, 104, 107, 108, 109, 117, 118, 121, 122] h3 h68 := fl18.trans fj (by decide)
        have s83 : (h68.1 97 1).toInt = (h52.1 97 1).toInt := by rw [(f82 97 (by decide)).1]
        have s84 : (h68.1 97 5).toInt = (h52.1 97 5).toInt := by rw [(f82 97 (by decide)).1]
        have s85 : (h68.1 97 0).toInt = (h52.1 97 0).toInt := by rw [(f82 97 (by decide)).1]
        have s86 : (h68.1 97 3).toInt = (h52.1 97 3).toInt := by rw [(f82 97 (by decide)).1]
        rw [← (f82 121 (by decide)).1] at xq54 xq55
        have rq87 : h68.1 122 = h17.1 122 := (f82 122 (by decide)).1.trans rq64
        have hK : kyOf h68 = zSecond e0 (1 : Int32) (0 : Int32) (zTo e0 ((0 : Int32).toInt + 1).toNat) := by rw [xq80, hE, hK]
        have hE : evOf h68 = e0 := xq81.trans hE
        show RUN d_X9_layRound 47 [(1, .inl 1), (0, .inr (.inr (.inl 96)))] [] h68 _
        refine R_aload_n (k := 0) rfl rfl rfl ?_
        refine R_aload_n (k := 0) rfl rfl rfl ?_
        refine R_getf_r (j := 40) rfl ft_9_91 sh_96 rfl ?_
        refine R_callV (v := .inr (.inr (.inl 96))) (As := [.inr (.inr (.inl 122))]) (rest := []) rfl mt_9_i351 pp_X9_keepState (by decide) rfl rfl rfl (Nat.le_of_ble_eq_true rfl) (Nat.le_of_ble_eq_true rfl) ((g_X9_keepState_1 h68 hI).mono (fun r88 h89 p90 => ?_))
        obtain ⟨hJ, fj, ⟨xq91, xq92, xq93, xq94, -⟩, rfl⟩ := p90
        have f95 := fj
        have fr := fr.trans fj (by decide)
        have hI := hJ
        have fl18 : FR [96, 104, 107, 108, 109, 117, 118, 121, 122] h3 h89 := fl18.trans fj (by decide)
        have s96 : (h89.1 96 42).toInt = (h68.1 96 42).toInt := by rw [(f95 96 (by decide)).1]
        have s97 : (h89.1 97 1).toInt = (h68.1 97 1).toInt := by rw [(f95 97 (by decide)).1]
        have s98 : (h89.1 97 5).toInt = (h68.1 97 5).toInt := by rw [(f95 97 (by decide)).1]
        have s99 : (h89.1 97 0).toInt = (h68.1 97 0).toInt := by rw [(f95 97 (by decide)).1]
        have s100 : (h89.1 97 3).toInt = (h68.1 97 3).toInt := by rw [(f95 97 (by decide)).1]
        rw [← (f95 121 (by decide)).1] at xq54 xq55
        rw [hK, hE] at xq91
        rw [hK] at xq92
        have hK : kyOf h89 = zSecond e0 (1 : Int32) (0 : Int32) (zTo e0 ((0 : Int32).toInt + 1).toNat) := xq93.trans hK
        have hE : evOf h89 = e0 := xq94.trans hE
        show RUN d_X9_layRound 55 [(1, .inl 1), (0, .inr (.inr (.inl 96)))] [] h89 _
        refine R_aload_n (k := 0) rfl rfl rfl ?_
        refine R_iconst 1 rfl rfl ?_
        refine K_putf (j := 42) (lo := (-2147483648)) (hi' := 2147483647) rfl ft_9_355 sh_96 rfl hI (by decide) rfl (by decide) fr (by decide) (fun h101 g102 hI fr => ?_)
        have fl18 : FR [96, 104, 107, 108, 109, 117, 118, 121, 122] h3 h101 := by rw [g102]; exact FR_wI _ _ fl18 (by decide)
        have s103 : (h101.1 97 1).toInt = (h89.1 97 1).toInt := by rw [g102, wI_ne _ _ _ (by decide)]
        have s104 : (h101.1 97 5).toInt = (h89.1 97 5).toInt := by rw [g102, wI_ne _ _ _ (by decide)]
        have s105 : (h101.1 97 0).toInt = (h89.1 97 0).toInt := by rw [g102, wI_ne _ _ _ (by decide)]
        have s106 : (h101.1 97 3).toInt = (h89.1 97 3).toInt := by rw [g102, wI_ne _ _ _ (by decide)]
        have hK : kyOf h101 = zSecond e0 (1 : Int32) (0 : Int32) (zTo e0 ((0 : Int32).toInt + 1).toNat) := by rw [g102, ky_s (by decide), hK]
        have hE : evOf h101 = e0 := by rw [g102, ev_s (by decide), hE]
        rw [← (show h101.1 121 = h89.1 121 from by rw [g102]; exact wI_ne _ _ _ (by decide))] at xq54 xq55
        rw [← (show h101.1 122 = h89.1 122 from by rw [g102]; exact wI_ne _ _ _ (by decide))] at xq91 xq92
        have s107 : (h101.1 96 42).toInt = 1 := by rw [g102, wI_is]; rfl
        have lp109 : ∀ (n108 : Nat) (h110 : PH) (x112 : Int32), INV h110 → FR [96, 103, 104, 105, 106, 107, 108, 109, 117, 118, 121, 122] h h110 → FR [96, 107, 108, 109, 117, 118, 121, 122] h101 h110 → 1 ≤ x112.toInt ∧ x112.toInt ≤ 536870912 → 1 ≤ (h110.1 96 42).toInt ∧ (h110.1 96 42).toInt ≤ 536870912 → (h110.1 96 42).toInt ≤ x112.toInt + 0 → (I60 P m r B lam h110 x112) → (evOf h110 = e0) → (2147483648 - (x112.toInt + (h110.1 96 42).toInt)).toNat < n108 → RUN d_X9_layRound 60 [(1, .inl x112), (0, .inr (.inr (.inl 96)))] [] h110 (qg_X9_layRound h) := by
          intro n108
          induction n108 with
          | zero => intro h110 x112 m114 m115 m116 m117 m118 m119 m120 m121 hz; exact absurd hz (Nat.not_lt_zero _)
          | succ n108 ih113 =>
            intro h110 x112 hI fr fl111 m117 m118 m119 m120 m121 hz
            have s122 : (h110.1 97 1).toInt = (h101.1 97 1).toInt := by rw [(fl111 97 (by decide)).1]
            have s123 : (h110.1 97 5).toInt = (h101.1 97 5).toInt := by rw [(fl111 97 (by decide)).1]
            have s124 : (h110.1 97 0).toInt = (h101.1 97 0).toInt := by rw [(fl111 97 (by decide)).1]
            have s125 : (h110.1 97 3).toInt = (h101.1 97 3).toInt := by rw [(fl111 97 (by decide)).1]
            have fl18 : FR [96, 104, 107, 108, 109, 117, 118, 121, 122] h3 h110 := fl18.trans fl111 (by decide)
            have rq126 : h110.1 121 = h110.1 121 := rfl
            have rq127 : h110.1 122 = h110.1 122 := rfl
            have hE := m121
            have hK : kyOf h110 = kyOf h110 := rfl
            refine R_aload_n (k := 0) rfl rfl rfl ?_
            refine R_getf_r (j := 39) rfl ft_9_88 sh_96 rfl ?_
            refine R_aload_n (k := 0) rfl rfl rfl ?_
            refine R_getf_r (j := 40) rfl ft_9_91 sh_96 rfl ?_
            refine R_callS (As := [.inr (.inr (.inl 121)), .inr (.inr (.inl 122))]) (rest := []) rfl mt_9_i358 (by decide) pp_X9_isAlike (by decide) rfl rfl (Nat.le_of_ble_eq_true rfl) (Nat.le_of_ble_eq_true rfl) ((g_X9_isAlike h110 hI).mono (fun r128 h129 p130 => ?_))
            obtain ⟨rfl, x133, rfl, (q134 | q134), zq131, zq132, -⟩ := p130
            · show RUN d_X9_layRound 71 [(1, .inl x112), (0, .inr (.inr (.inl 96)))] [.inl x133] h110 _
              refine N_if_ne (a := x133.toInt) 126 rfl rfl rfl (fun c135 => ?_) (fun c135 => ?_)
              · obtain ⟨s0, L, hL, hL1, hs0, hsl⟩ := I60_exit hLR m120 (zq131 (by omega))
                refine R_aload_n (k := 0) rfl rfl rfl ?_
                refine R_iconst 0 rfl rfl ?_
                have k136 : (0 : Int32).toInt = 0 := by decide
                refine R_callV (v := .inr (.inr (.inl 96))) (As := [.inl 0]) (rest := []) rfl mt_9_i348 pp_X9_goTo (by decide) rfl rfl rfl (Nat.le_of_ble_eq_true rfl) (Nat.le_of_ble_eq_true rfl) ((g_X9_goTo h110 hI (0 : Int32) (by decide)).mono (fun r137 h138 p139 => ?_))
                obtain ⟨hJ, fj, ⟨kp140, xq141, xq142, -⟩, rfl⟩ := p139
                have f143 := fj
                have fr := fr.trans fj (by decide)
                have hI := hJ
                have fl111 : FR [96, 107, 108, 109, 117, 118, 121, 122] h101 h138 := fl111.trans fj (by decide)
                have fl18 : FR [96, 104, 107, 108, 109, 117, 118, 121, 122] h3 h138 := fl18.trans fj (by decide)
                have s144 : (h138.1 97 1).toInt = (h110.1 97 1).toInt := by rw [(f143 97 (by decide)).1]
                have s145 : (h138.1 97 5).toInt = (h110.1 97 5).toInt := by rw [(f143 97 (by decide)).1]
                have s146 : (h138.1 97 0).toInt = (h110.1 97 0).toInt := by rw [(f143 97 (by decide)).1]
                have s147 : (h138.1 97 3).toInt = (h110.1 97 3).toInt := by rw [(f143 97 (by decide)).1]
                have hK : kyOf h138 = zTo e0 ((0 : Int32).toInt + 1).toNat := by rw [xq141, hE]
                have hE : evOf h138 = e0 := xq142.trans hE
                show RUN d_X9_layRound 131 [(1, .inl x112), (0, .inr (.inr (.inl 96)))] [] h138 _
                refine R_aload_n (k := 0) rfl rfl rfl ?_
                refine R_aload_n (k := 0) rfl rfl rfl ?_
                refine R_getf_r (j := 39) rfl ft_9_88 sh_96 rfl ?_
                refine R_callV (v := .inr (.inr (.inl 96))) (As := [.inr (.inr (.inl 121))]) (rest := []) rfl mt_9_i351 pp_X9_keepState (by decide) rfl rfl rfl (Nat.le_of_ble_eq_true rfl) (Nat.le_of_ble_eq_true rfl) ((g_X9_keepState h138 hI).mono (fun r148 h149 p150 => ?_))
                obtain ⟨hJ, fj, ⟨xq151, xq152, xq153, xq154, -⟩, rfl⟩ := p150
                have f155 := fj
                have fr := fr.trans fj (by decide)
                have hI := hJ
                have fl111 : FR [96, 107, 108, 109, 117, 118, 121, 122] h101 h149 := fl111.trans fj (by decide)
                have fl18 : FR [96, 104, 107, 108, 109, 117, 118, 121, 122] h3 h149 := fl18.trans fj (by decide)
                have s156 : (h149.1 97 1).toInt = (h138.1 97 1).toInt := by rw [(f155 97 (by decide)).1]
                have s157 : (h149.1 97 5).toInt = (h138.1 97 5).toInt := by rw [(f155 97 (by decide)).1]
                have s158 : (h149.1 97 0).toInt = (h138.1 97 0).toInt := by rw [(f155 97 (by decide)).1]
                have s159 : (h149.1 97 3).toInt = (h138.1 97 3).toInt := by rw [(f155 97 (by decide)).1]
                have s160 : (h149.1 96 42).toInt = (h138.1 96 42).toInt := by rw [(f155 96 (by decide)).1]
                rw [hK, hE] at xq151
                rw [hK] at xq152
                have hK : kyOf h149 = zTo e0 ((0 : Int32).toInt + 1).toNat := xq153.trans hK
                have hE : evOf h149 = e0 := xq154.trans hE
                show RUN d_X9_layRound 139 [(1, .inl x112), (0, .inr (.inr (.inl 96)))] [] h149 _
                refine R_aload_n (k := 0) rfl rfl rfl ?_
                refine R_aload_n (k := 0) rfl rfl rfl ?_
                refine R_getf_i (j := 42) rfl ft_9_355 sh_96 rfl ?_
                refine R_callV (v := .inr (.inr (.inl 96))) (As := [.inl (h149.1 96 42)]) (rest := []) rfl mt_9_i348 pp_X9_goTo (by decide) rfl rfl rfl (Nat.le_of_ble_eq_true rfl) (Nat.le_of_ble_eq_true rfl) ((g_X9_goTo h149 hI (h149.1 96 42) (by omega)).mono (fun r161 h162 p163 => ?_))
                obtain ⟨hJ, fj, ⟨kp164, xq165, xq166, -⟩, rfl⟩ := p163
                have f167 := fj
                have fr := fr.trans fj (by decide)
                have hI := hJ
                have fl111 : FR [96, 107, 108, 109, 117, 118, 121, 122] h101 h162 := fl111.trans fj (by decide)
                have fl18 : FR [96, 104, 107, 108, 109, 117, 118, 121, 122] h3 h162 := fl18.trans fj (by decide)
                have s168 : (h162.1 97 1).toInt = (h149.1 97 1).toInt := by rw [(f167 97 (by decide)).1]
                have s169 : (h162.1 97 5).toInt = (h149.1 97 5).toInt := by rw [(f167 97 (by decide)).1]
                have s170 : (h162.1 97 0).toInt = (h149.1 97 0).toInt := by rw [(f167 97 (by decide)).1]
                have s171 : (h162.1 97 3).toInt = (h149.1 97 3).toInt := by rw [(f167 97 (by decide)).1]
                rw [← (f167 121 (by decide)).1] at xq151 xq152
                have hK : kyOf h162 = zTo e0 ((h149.1 96 42).toInt + 1).toNat := by rw [xq165, hE]
                have hE : evOf h162 = e0 := xq166.trans hE
                show RUN d_X9_layRound 147 [(1, .inl x112), (0, .inr (.inr (.inl 96)))] [] h162 _
                refine R_aload_n (k := 0) rfl rfl rfl ?_
                refine R_aload_n (k := 0) rfl rfl rfl ?_
                refine R_getf_r (j := 40) rfl ft_9_91 sh_96 rfl ?_
                refine R_callV (v := .inr (.inr (.inl 96))) (As := [.inr (.inr (.inl 122))]) (rest := []) rfl mt_9_i351 pp_X9_keepState (by decide) rfl rfl rfl (Nat.le_of_ble_eq_true rfl) (Nat.le_of_ble_eq_true rfl) ((g_X9_keepState_1 h162 hI).mono (fun r172 h173 p174 => ?_))
                obtain ⟨hJ, fj, ⟨xq175, xq176, xq177, xq178, -⟩, rfl⟩ := p174
                have f179 := fj
                have fr := fr.trans fj (by decide)
                have hI := hJ
                have fl111 : FR [96, 107, 108, 109, 117, 118, 121, 122] h101 h173 := fl111.trans fj (by decide)
                have fl18 : FR [96, 104, 107, 108, 109, 117, 118, 121, 122] h3 h173 := fl18.trans fj (by decide)
                have s180 : (h173.1 97 1).toInt = (h162.1 97 1).toInt := by rw [(f179 97 (by decide)).1]
                have s181 : (h173.1 97 5).toInt = (h162.1 97 5).toInt := by rw [(f179 97 (by decide)).1]
                have s182 : (h173.1 97 0).toInt = (h162.1 97 0).toInt := by rw [(f179 97 (by decide)).1]
                have s183 : (h173.1 97 3).toInt = (h162.1 97 3).toInt := by rw [(f179 97 (by decide)).1]
                have s184 : (h173.1 96 42).toInt = (h162.1 96 42).toInt := by rw [(f179 96 (by decide)).1]
                rw [← (f179 121 (by decide)).1] at xq151 xq152
                rw [hK, hE] at xq175
                rw [hK] at xq176
                have hK : kyOf h173 = zTo e0 ((h149.1 96 42).toInt + 1).toNat := xq177.trans hK
                have hE : evOf h173 = e0 := xq178.trans hE
                show RUN d_X9_layRound 155 [(1, .inl x112), (0, .inr (.inr (.inl 96)))] [] h173 _
                refine R_aload_n (k := 0) rfl rfl rfl ?_
                refine R_iconst 0 rfl rfl ?_
                refine K_putf (j := 41) (lo := (-2147483648)) (hi' := 2147483647) rfl ft_9_362 sh_96 rfl hI (by decide) rfl (by decide) fr (by decide) (fun h185 g186 hI fr => ?_)
                have fl111 : FR [96, 107, 108, 109, 117, 118, 121, 122] h101 h185 := by rw [g186]; exact FR_wI _ _ fl111 (by decide)
                have fl18 : FR [96, 104, 107, 108, 109, 117, 118, 121, 122] h3 h185 := by rw [g186]; exact FR_wI _ _ fl18 (by decide)
                have s187 : (h185.1 97 1).toInt = (h173.1 97 1).toInt := by rw [g186, wI_ne _ _ _ (by decide)]
                have s188 : (h185.1 97 5).toInt = (h173.1 97 5).toInt := by rw [g186, wI_ne _ _ _ (by decide)]
                have s189 : (h185.1 97 0).toInt = (h173.1 97 0).toInt := by rw [g186, wI_ne _ _ _ (by decide)]
                have s190 : (h185.1 97 3).toInt = (h173.1 97 3).toInt := by rw [g186, wI_ne _ _ _ (by decide)]
                have s191 : (h185.1 96 42).toInt = (h173.1 96 42).toInt := by rw [g186, wI_at (by decide)]
                have hK : kyOf h185 = zTo e0 ((h149.1 96 42).toInt + 1).toNat := by rw [g186, ky_s (by decide), hK]
                have hE : evOf h185 = e0 := by rw [g186, ev_s (by decide), hE]
                rw [← (show h185.1 121 = h173.1 121 from by rw [g186]; exact wI_ne _ _ _ (by decide))] at xq151 xq152
                rw [← (show h185.1 122 = h173.1 122 from by rw [g186]; exact wI_ne _ _ _ (by decide))] at xq175 xq176
                have s192 : (h185.1 96 41).toInt = 0 := by rw [g186, wI_is]; rfl
                have lp194 : ∀ (n193 : Nat) (h195 : PH), INV h195 → FR [96, 103, 104, 105, 106, 107, 108, 109, 117, 118, 121, 122] h h195 → FR [96, 107, 108, 109, 117, 118, 121, 122] h185 h195 → (h195.1 96 42).toInt = (h185.1 96 42).toInt → 0 ≤ (h195.1 96 41).toInt ∧ (h195.1 96 41).toInt ≤ 1073741824 → (I160 P m r B s0 L h195) → (evOf h195 = e0) → ((s0 : Int) - (h195.1 96 41).toInt).toNat < n193 → RUN d_X9_layRound 160 [(1, .inl x112), (0, .inr (.inr (.inl 96)))] [] h195 (qg_X9_layRound h) := by
                  intro n193
                  induction n193 with
                  | zero => intro h195 m198 m199 m200 m201 m202 m203 m204 hz; exact absurd hz (Nat.not_lt_zero _)
                  | succ n193 ih197 =>
                    intro h195 hI fr fl196 m201 m202 m203 m204 hz
                    have s205 : (h195.1 97 1).toInt = (h185.1 97 1).toInt := by rw [(fl196 97 (by decide)).1]
                    have s206 : (h195.1 97 5).toInt = (h185.1 97 5).toInt := by rw [(fl196 97 (by decide)).1]
                    have s207 : (h195.1 97 0).toInt = (h185.1 97 0).toInt := by rw [(fl196 97 (by decide)).1]
                    have s208 : (h195.1 97 3).toInt = (h185.1 97 3).toInt := by rw [(fl196 97 (by decide)).1]
                    have fl111 : FR [96, 107, 108, 109, 117, 118, 121, 122] h101 h195 := fl111.trans fl196 (by decide)
                    have fl18 : FR [96, 104, 107, 108, 109, 117, 118, 121, 122] h3 h195 := fl18.trans fl196 (by decide)
                    have rq209 : h195.1 121 = h195.1 121 := rfl
                    have rq210 : h195.1 122 = h195.1 122 := rfl
                    have hE := m204
                    have hK : kyOf h195 = kyOf h195 := rfl
                    refine R_aload_n (k := 0) rfl rfl rfl ?_
                    refine R_getf_r (j := 39) rfl ft_9_88 sh_96 rfl ?_
                    refine R_aload_n (k := 0) rfl rfl rfl ?_
                    refine R_getf_r (j := 40) rfl ft_9_91 sh_96 rfl ?_
                    refine R_callS (As := [.inr (.inr (.inl 121)), .inr (.inr (.inl 122))]) (rest := []) rfl mt_9_i358 (by decide) pp_X9_isAlike (by decide) rfl rfl (Nat.le_of_ble_eq_true rfl) (Nat.le_of_ble_eq_true rfl) ((g_X9_isAlike h195 hI).mono (fun r211 h212 p213 => ?_))
                    obtain ⟨rfl, x216, rfl, (q217 | q217), zq214, zq215, -⟩ := p213
                    · show RUN d_X9_layRound 171 [(1, .inl x112), (0, .inr (.inr (.inl 96)))] [.inl x216] h195 _
                      refine N_if_ne (a := x216.toInt) 231 rfl rfl rfl (fun c218 => ?_) (fun c218 => ?_)
                      · refine R_aload_n (k := 0) rfl rfl rfl ?_
                        refine R_aload_n (k := 0) rfl rfl rfl ?_
                        refine R_getf_r (j := 39) rfl ft_9_88 sh_96 rfl ?_
                        refine R_callV (v := .inr (.inr (.inl 96))) (As := [.inr (.inr (.inl 121))]) (rest := []) rfl mt_9_i365 pp_X9_setState (by decide) rfl rfl rfl (Nat.le_of_ble_eq_true rfl) (Nat.le_of_ble_eq_true rfl) ((g_X9_setState h195 hI).mono (fun r219 h220 p221 => ?_))
                        obtain ⟨hJ, fj, ⟨xq222, xq223, xq224, -⟩, rfl⟩ := p221
                        have f225 := fj
                        have fr := fr.trans fj (by decide)
                        have hI := hJ
                        have fl196 : FR [96, 107, 108, 109, 117, 118, 121, 122] h185 h220 := fl196.trans fj (by decide)
                        have fl111 : FR [96, 107, 108, 109, 117, 118, 121, 122] h101 h220 := fl111.trans fj (by decide)
                        have fl18 : FR [96, 104, 107, 108, 109, 117, 118, 121, 122] h3 h220 := fl18.trans fj (by decide)
                        have s226 : (h220.1 97 1).toInt = (h195.1 97 1).toInt := by rw [(f225 97 (by decide)).1]
                        have s227 : (h220.1 97 5).toInt = (h195.1 97 5).toInt := by rw [(f225 97 (by decide)).1]
                        have s228 : (h220.1 97 0).toInt = (h195.1 97 0).toInt := by rw [(f225 97 (by decide)).1]
                        have s229 : (h220.1 97 3).toInt = (h195.1 97 3).toInt := by rw [(f225 97 (by decide)).1]
                        have s230 : (h220.1 96 42).toInt = (h195.1 96 42).toInt := by rw [(f225 96 (by decide)).1]
                        have s231 : (h220.1 96 41).toInt = (h195.1 96 41).toInt := by rw [(f225 96 (by decide)).1]
                        have rq232 : h220.1 121 = h195.1 121 := (f225 121 (by decide)).1.trans rq209
                        have rq233 : h220.1 122 = h195.1 122 := (f225 122 (by decide)).1.trans rq210
                        show RUN d_X9_layRound 239 [(1, .inl x112), (0, .inr (.inr (.inl 96)))] [] h220 _
                        refine R_aload_n (k := 0) rfl rfl rfl ?_
                        refine R_iconst 0 rfl rfl ?_
                        refine K_putf (j := 34) (lo := (-2147483648)) (hi' := 2147483647) rfl ft_9_262 sh_96 rfl hI (by decide) rfl (by decide) fr (by decide) (fun h234 g235 hI fr => ?_)
                        have fl196 : FR [96, 107, 108, 109, 117, 118, 121, 122] h185 h234 := by rw [g235]; exact FR_wI _ _ fl196 (by decide)
                        have fl111 : FR [96, 107, 108, 109, 117, 118, 121, 122] h101 h234 := by rw [g235]; exact FR_wI _ _ fl111 (by decide)
                        have fl18 : FR [96, 104, 107, 108, 109, 117, 118, 121, 122] h3 h234 := by rw [g235]; exact FR_wI _ _ fl18 (by decide)
                        have s236 : (h234.1 97 1).toInt = (h220.1 97 1).toInt := by rw [g235, wI_ne _ _ _ (by decide)]
                        have s237 : (h234.1 97 5).toInt = (h220.1 97 5).toInt := by rw [g235, wI_ne _ _ _ (by decide)]
                        have s238 : (h234.1 97 0).toInt = (h220.1 97 0).toInt := by rw [g235, wI_ne _ _ _ (by decide)]
                        have s239 : (h234.1 97 3).toInt = (h220.1 97 3).toInt := by rw [g235, wI_ne _ _ _ (by decide)]
                        have s240 : (h234.1 96 42).toInt = (h220.1 96 42).toInt := by rw [g235, wI_at (by decide)]
                        have s241 : (h234.1 96 41).toInt = (h220.1 96 41).toInt := by rw [g235, wI_at (by decide)]
                        have rq242 : h234.1 121 = h195.1 121 := (show h234.1 121 = h220.1 121 from by rw [g235]; exact wI_ne _ _ _ (by decide)).trans rq232
                        have rq243 : h234.1 122 = h195.1 122 := (show h234.1 122 = h220.1 122 from by rw [g235]; exact wI_ne _ _ _ (by decide)).trans rq233
                        have s244 : (h234.1 96 34).toInt = 0 := by rw [g235, wI_is]; rfl
                        refine R_iconst 0 rfl rfl ?_
                        refine R_istore_n (k := 2) rfl [(2, .inl 0), (1, .inl x112), (0, .inr (.inr (.inl 96)))] rfl rfl (by decide) ?_
                        have lp246 : ∀ (n245 : Nat) (h247 : PH) (x249 : Int32), INV h247 → FR [96, 103, 104, 105, 106, 107, 108, 109, 117, 118, 121, 122] h h247 → FR [96, 107, 108, 109, 117, 118] h234 h247 → 0 ≤ x249.toInt ∧ x249.toInt ≤ 536870912 → (h247.1 96 42).toInt = (h234.1 96 42).toInt → (h247.1 96 41).toInt = (h234.1 96 41).toInt → x249.toInt ≤ (h234.1 96 42).toInt + 0 → (536870912 - x249.toInt).toNat < n245 → RUN d_X9_layRound 246 [(2, .inl x249), (1, .inl x112), (0, .inr (.inr (.inl 96)))] [] h247 (qg_X9_layRound h) := by
                          intro n245
                          induction n245 with
                          | zero => intro h247 x249 m251 m252 m253 m254 m255 m256 m257 hz; exact absurd hz (Nat.not_lt_zero _)
                          | succ n245 ih250 =>
                            intro h247 x249 hI fr fl248 m254 m255 m256 m257 hz
                            have s258 : (h247.1 97 1).toInt = (h234.1 97 1).toInt := by rw [(fl248 97 (by decide)).1]
                            have s259 : (h247.1 97 5).toInt = (h234.1 97 5).toInt := by rw [(fl248 97 (by decide)).1]
                            have s260 : (h247.1 97 0).toInt = (h234.1 97 0).toInt := by rw [(fl248 97 (by decide)).1]
                            have s261 : (h247.1 97 3).toInt = (h234.1 97 3).toInt := by rw [(fl248 97 (by decide)).1]
                            have fl196 : FR [96, 107, 108, 109, 117, 118, 121, 122] h185 h247 := fl196.trans fl248 (by decide)
                            have fl111 : FR [96, 107, 108, 109, 117, 118, 121, 122] h101 h247 := fl111.trans fl248 (by decide)
                            have fl18 : FR [96, 104, 107, 108, 109, 117, 118, 121, 122] h3 h247 := fl18.trans fl248 (by decide)
                            have rq262 : h247.1 121 = h247.1 121 := rfl
                            have rq263 : h247.1 122 = h247.1 122 := rfl
                            refine R_iload_n (k := 2) rfl rfl rfl ?_
                            refine R_aload_n (k := 0) rfl rfl rfl ?_
                            refine R_getf_i (j := 42) rfl ft_9_355 sh_96 rfl ?_
                            refine N_icmp_ge (a := x249.toInt) (b := (h247.1 96 42).toInt) 266 rfl rfl rfl rfl (fun c264 => ?_) (fun c264 => ?_)
                            · refine R_aload_n (k := 0) rfl rfl rfl ?_
                              refine R_aload_n (k := 0) rfl rfl rfl ?_
                              refine R_getf_i (j := 34) rfl ft_9_262 sh_96 rfl ?_
                              refine K_putf (j := 43) (lo := (-2147483648)) (hi' := 2147483647) rfl ft_9_368 sh_96 rfl hI (by decide) rfl (i_rng _) fr (by decide) (fun h265 g266 hI fr => ?_)
                              have fl248 : FR [96, 107, 108, 109, 117, 118] h234 h265 := by rw [g266]; exact FR_wI _ _ fl248 (by decide)
                              have fl196 : FR [96, 107, 108, 109, 117, 118, 121, 122] h185 h265 := by rw [g266]; exact FR_wI _ _ fl196 (by decide)
                              have fl111 : FR [96, 107, 108, 109, 117, 118, 121, 122] h101 h265 := by rw [g266]; exact FR_wI _ _ fl111 (by decide)
                              have fl18 : FR [96, 104, 107, 108, 109, 117, 118, 121, 122] h3 h265 := by rw [g266]; exact FR_wI _ _ fl18 (by decide)
                              have s267 : (h265.1 97 1).toInt = (h247.1 97 1).toInt := by rw [g266, wI_ne _ _ _ (by decide)]
                              have s268 : (h265.1 97 5).toInt = (h247.1 97 5).toInt := by rw [g266, wI_ne _ _ _ (by decide)]
                              have s269 : (h265.1 97 0).toInt = (h247.1 97 0).toInt := by rw [g266, wI_ne _ _ _ (by decide)]
                              have s270 : (h265.1 97 3).toInt = (h247.1 97 3).toInt := by rw [g266, wI_ne _ _ _ (by decide)]
                              have s271 : (h265.1 96 42).toInt = (h247.1 96 42).toInt := by rw [g266, wI_at (by decide)]
                              have s272 : (h265.1 96 41).toInt = (h247.1 96 41).toInt := by rw [g266, wI_at (by decide)]
                              have s273 : (h265.1 96 34).toInt = (h247.1 96 34).toInt := by rw [g266, wI_at (by decide)]
                              have rq274 : h265.1 121 = h247.1 121 := (show h265.1 121 = h247.1 121 from by rw [g266]; exact wI_ne _ _ _ (by decide)).trans rq262
                              have rq275 : h265.1 122 = h247.1 122 := (show h265.1 122 = h247.1 122 from by rw [g266]; exact wI_ne _ _ _ (by decide)).trans rq263
                              have s276 : (h265.1 96 43).toInt = (h247.1 96 34).toInt := by rw [g266, wI_is]
                              exact R_vret rfl rfl ⟨hI, fr, ⟨by omega, trivial⟩, rfl⟩
                            · refine R_aload_n (k := 0) rfl rfl rfl ?_
                              refine R_iconst 1 rfl rfl ?_
                              refine R_iconst 0 rfl rfl ?_
                              have k277 : (1 : Int32).toInt = 1 := by decide
                              have k278 : (0 : Int32).toInt = 0 := by decide
                              refine R_callV (v := .inr (.inr (.inl 96))) (As := [.inl 1, .inl 0]) (rest := []) rfl mt_9_i288 pp_X9_goSecond (by decide) rfl rfl rfl (Nat.le_of_ble_eq_true rfl) (Nat.le_of_ble_eq_true rfl) ((g_X9_goSecond h247 hI (1 : Int32) (0 : Int32) (by decide)).mono (fun r279 h280 p281 => ?_))
                              obtain ⟨hJ, fj, ⟨kp282, kp283, kp284, kp285, kp286, kp287, kp288, kp289, kp290, kp291, xq292, xq293, -⟩, rfl⟩ := p281
                              have f294 := fj
                              have fr := fr.trans fj (by decide)
                              have hI := hJ
                              have fl248 : FR [96, 107, 108, 109, 117, 118] h234 h280 := fl248.trans fj (by decide)
                              have fl196 : FR [96, 107, 108, 109, 117, 118, 121, 122] h185 h280 := fl196.trans fj (by decide)
                              have fl111 : FR [96, 107, 108, 109, 117, 118, 121, 122] h101 h280 := fl111.trans fj (by decide)
                              have fl18 : FR [96, 104, 107, 108, 109, 117, 118, 121, 122] h3 h280 := fl18.trans fj (by decide)
                              have s295 : (h280.1 97 1).toInt = (h247.1 97 1).toInt := by rw [(f294 97 (by decide)).1]
                              have s296 : (h280.1 97 5).toInt = (h247.1 97 5).toInt := by rw [(f294 97 (by decide)).1]
                              have s297 : (h280.1 97 0).toInt = (h247.1 97 0).toInt := by rw [(f294 97 (by decide)).1]
                              have s298 : (h280.1 97 3).toInt = (h247.1 97 3).toInt := by rw [(f294 97 (by decide)).1]
                              have rq299 : h280.1 121 = h247.1 121 := (f294 121 (by decide)).1.trans rq262
                              have rq300 : h280.1 122 = h247.1 122 := (f294 122 (by decide)).1.trans rq263
                              show RUN d_X9_layRound 260 [(2, .inl x249), (1, .inl x112), (0, .inr (.inr (.inl 96)))] [] h280 _
                              refine N_iinc (a := x249.toInt) (c := 1) (fun w => [(2, .inl w), (1, .inl x112), (0, .inr (.inr (.inl 96)))]) rfl rfl (fun _ => rfl) (by decide) rfl (by decide) (by omega) (fun x301 q302 => ?_)
                              refine R_goto 246 rfl rfl ?_
                              exact RUN_weak (psub_cons rfl (psub_cons rfl (psub_cons rfl (psub_nil _)))) (ih250 h280 x301 hI fr fl248 (by omega) (by omega) (by omega) (by omega) (by omega))
                        have k303 : (0 : Int32).toInt = 0 := by decide
                        exact lp246 _ h234 (0 : Int32) hI fr (FR.rf _ _) (by decide) rfl rfl (by omega) (Nat.lt_succ_self _)
                      · exfalso; omega
                    · show RUN d_X9_layRound 171 [(1, .inl x112), (0, .inr (.inr (.inl 96)))] [.inl x216] h195 _
                      refine N_if_ne (a := x216.toInt) 231 rfl rfl rfl (fun c304 => ?_) (fun c304 => ?_)
                      · exfalso; omega
                      · refine R_aload_n (k := 0) rfl rfl rfl ?_
                        refine R_aload_n (k := 0) rfl rfl rfl ?_
                        refine R_getf_r (j := 39) rfl ft_9_88 sh_96 rfl ?_
                        refine R_callV (v := .inr (.inr (.inl 96))) (As := [.inr (.inr (.inl 121))]) (rest := []) rfl mt_9_i365 pp_X9_setState (by decide) rfl rfl rfl (Nat.le_of_ble_eq_true rfl) (Nat.le_of_ble_eq_true rfl) ((g_X9_setState h195 hI).mono (fun r305 h306 p307 => ?_))
                        obtain ⟨hJ, fj, ⟨xq308, xq309, xq310, -⟩, rfl⟩ := p307
                        have f311 := fj
                        have fr := fr.trans fj (by decide)
                        have hI := hJ
                        have fl196 : FR [96, 107, 108, 109, 117, 118, 121, 122] h185 h306 := fl196.trans fj (by decide)
                        have fl111 : FR [96, 107, 108, 109, 117, 118, 121, 122] h101 h306 := fl111.trans fj (by decide)
                        have fl18 : FR [96, 104, 107, 108, 109, 117, 118, 121, 122] h3 h306 := fl18.trans fj (by decide)
                        have s312 : (h306.1 97 1).toInt = (h195.1 97 1).toInt := by rw [(f311 97 (by decide)).1]
                        have s313 : (h306.1 97 5).toInt = (h195.1 97 5).toInt := by rw [(f311 97 (by decide)).1]
                        have s314 : (h306.1 97 0).toInt = (h195.1 97 0).toInt := by rw [(f311 97 (by decide)).1]
                        have s315 : (h306.1 97 3).toInt = (h195.1 97 3).toInt := by rw [(f311 97 (by decide)).1]
                        have s316 : (h306.1 96 42).toInt = (h195.1 96 42).toInt := by rw [(f311 96 (by decide)).1]
                        have s317 : (h306.1 96 41).toInt = (h195.1 96 41).toInt := by rw [(f311 96 (by decide)).1]
                        have rq318 : h306.1 121 = h195.1 121 := (f311 121 (by decide)).1.trans rq209
                        have rq319 : h306.1 122 = h195.1 122 := (f311 122 (by decide)).1.trans rq210
                        have hK : kyOf h306 = kyOf h306 := rfl
                        have hE : evOf h306 = e0 := xq310.trans hE
                        show RUN d_X9_layRound 182 [(1, .inl x112), (0, .inr (.inr (.inl 96)))] [] h306 _
                        refine R_aload_n (k := 0) rfl rfl rfl ?_
                        refine R_iconst 1 rfl rfl ?_
                        refine R_iconst 0 rfl rfl ?_
                        have k320 : (1 : Int32).toInt = 1 := by decide
                        have k321 : (0 : Int32).toInt = 0 := by decide
                        refine R_callV (v := .inr (.inr (.inl 96))) (As := [.inl 1, .inl 0]) (rest := []) rfl mt_9_i288 pp_X9_goSecond (by decide) rfl rfl rfl (Nat.le_of_ble_eq_true rfl) (Nat.le_of_ble_eq_true rfl) ((g_X9_goSecond h306 hI (1 : Int32) (0 : Int32) (by decide)).mono (fun r322 h323 p324 => ?_))
                        obtain ⟨hJ, fj, ⟨kp325, kp326, kp327, kp328, kp329, kp330, kp331, kp332, kp333, kp334, xq335, xq336, -⟩, rfl⟩ := p324
                        have f337 := fj
                        have fr := fr.trans fj (by decide)
                        have hI := hJ
                        have fl196 : FR [96, 107, 108, 109, 117, 118, 121, 122] h185 h323 := fl196.trans fj (by decide)
                        have fl111 : FR [96, 107, 108, 109, 117, 118, 121, 122] h101 h323 := fl111.trans fj (by decide)
                        have fl18 : FR [96, 104, 107, 108, 109, 117, 118, 121, 122] h3 h323 := fl18.trans fj (by decide)
                        have s338 : (h323.1 97 1).toInt = (h306.1 97 1).toInt := by rw [(f337 97 (by decide)).1]
                        have s339 : (h323.1 97 5).toInt = (h306.1 97 5).toInt := by rw [(f337 97 (by decide)).1]
                        have s340 : (h323.1 97 0).toInt = (h306.1 97 0).toInt := by rw [(f337 97 (by decide)).1]
                        have s341 : (h323.1 97 3).toInt = (h306.1 97 3).toInt := by rw [(f337 97 (by decide)).1]
                        have rq342 : h323.1 121 = h195.1 121 := (f337 121 (by decide)).1.trans rq318
                        have rq343 : h323.1 122 = h195.1 122 := (f337 122 (by decide)).1.trans rq319
                        have hK : kyOf h323 = zSecond e0 (1 : Int32) (0 : Int32) (kyOf h306) := by rw [xq335, hE, hK]
                        have hE : evOf h323 = e0 := xq336.trans hE
                        show RUN d_X9_layRound 188 [(1, .inl x112), (0, .inr (.inr (.inl 96)))] [] h323 _
                        refine R_aload_n (k := 0) rfl rfl rfl ?_
                        refine R_aload_n (k := 0) rfl rfl rfl ?_
                        refine R_getf_r (j := 39) rfl ft_9_88 sh_96 rfl ?_
                        refine R_callV (v := .inr (.inr (.inl 96))) (As := [.inr (.inr (.inl 121))]) (rest := []) rfl mt_9_i351 pp_X9_keepState (by decide) rfl rfl rfl (Nat.le_of_ble_eq_true rfl) (Nat.le_of_ble_eq_true rfl) ((g_X9_keepState h323 hI).mono (fun r344 h345 p346 => ?_))
                        obtain ⟨hJ, fj, ⟨xq347, xq348, xq349, xq350, -⟩, rfl⟩ := p346
                        have f351 := fj
                        have fr := fr.trans fj (by decide)
                        have hI := hJ
                        have fl196 : FR [96, 107, 108, 109, 117, 118, 121, 122] h185 h345 := fl196.trans fj (by decide)
                        have fl111 : FR [96, 107, 108, 109, 117, 118, 121, 122] h101 h345 := fl111.trans fj (by decide)
                        have fl18 : FR [96, 104, 107, 108, 109, 117, 118, 121, 122] h3 h345 := fl18.trans fj (by decide)
                        have s352 : (h345.1 97 1).toInt = (h323.1 97 1).toInt := by rw [(f351 97 (by decide)).1]
                        have s353 : (h345.1 97 5).toInt = (h323.1 97 5).toInt := by rw [(f351 97 (by decide)).1]
                        have s354 : (h345.1 97 0).toInt = (h323.1 97 0).toInt := by rw [(f351 97 (by decide)).1]
                        have s355 : (h345.1 97 3).toInt = (h323.1 97 3).toInt := by rw [(f351 97 (by decide)).1]
                        have s356 : (h345.1 96 42).toInt = (h323.1 96 42).toInt := by rw [(f351 96 (by decide)).1]
                        have s357 : (h345.1 96 41).toInt = (h323.1 96 41).toInt := by rw [(f351 96 (by decide)).1]
                        have rq358 : h345.1 122 = h195.1 122 := (f351 122 (by decide)).1.trans rq343
                        rw [hK, hE] at xq347
                        rw [hK] at xq348
                        have hK : kyOf h345 = zSecond e0 (1 : Int32) (0 : Int32) (kyOf h306) := xq349.trans hK
                        have hE : evOf h345 = e0 := xq350.trans hE
                        show RUN d_X9_layRound 196 [(1, .inl x112), (0, .inr (.inr (.inl 96)))] [] h345 _
                        refine R_aload_n (k := 0) rfl rfl rfl ?_
                        refine R_aload_n (k := 0) rfl rfl rfl ?_
                        refine R_getf_r (j := 40) rfl ft_9_91 sh_96 rfl ?_
                        refine R_callV (v := .inr (.inr (.inl 96))) (As := [.inr (.inr (.inl 122))]) (rest := []) rfl mt_9_i365 pp_X9_setState (by decide) rfl rfl rfl (Nat.le_of_ble_eq_true rfl) (Nat.le_of_ble_eq_true rfl) ((g_X9_setState_1 h345 hI).mono (fun r359 h360 p361 => ?_))
                        obtain ⟨hJ, fj, ⟨xq362, xq363, xq364, -⟩, rfl⟩ := p361
                        have f365 := fj
                        have fr := fr.trans fj (by decide)
                        have hI := hJ
                        have fl196 : FR [96, 107, 108, 109, 117, 118, 121, 122] h185 h360 := fl196.trans fj (by decide)
                        have fl111 : FR [96, 107, 108, 109, 117, 118, 121, 122] h101 h360 := fl111.trans fj (by decide)
                        have fl18 : FR [96, 104, 107, 108, 109, 117, 118, 121, 122] h3 h360 := fl18.trans fj (by decide)
                        have s366 : (h360.1 97 1).toInt = (h345.1 97 1).toInt := by rw [(f365 97 (by decide)).1]
                        have s367 : (h360.1 97 5).toInt = (h345.1 97 5).toInt := by rw [(f365 97 (by decide)).1]
                        have s368 : (h360.1 97 0).toInt = (h345.1 97 0).toInt := by rw [(f365 97 (by decide)).1]
                        have s369 : (h360.1 97 3).toInt = (h345.1 97 3).toInt := by rw [(f365 97 (by decide)).1]
                        have s370 : (h360.1 96 42).toInt = (h345.1 96 42).toInt := by rw [(f365 96 (by decide)).1]
                        have s371 : (h360.1 96 41).toInt = (h345.1 96 41).toInt := by rw [(f365 96 (by decide)).1]
                        rw [← (f365 121 (by decide)).1] at xq347 xq348
                        have rq372 : h360.1 122 = h195.1 122 := (f365 122 (by decide)).1.trans rq358
                        have hK : kyOf h360 = kyOf h360 := rfl
                        have hE : evOf h360 = e0 := xq364.trans hE
                        show RUN d_X9_layRound 204 [(1, .inl x112), (0, .inr (.inr (.inl 96)))] [] h360 _
                        refine R_aload_n (k := 0) rfl rfl rfl ?_
                        refine R_iconst 1 rfl rfl ?_
                        refine R_iconst 0 rfl rfl ?_
                        have k373 : (1 : Int32).toInt = 1 := by decide
                        have k374 : (0 : Int32).toInt = 0 := by decide
                        refine R_callV (v := .inr (.inr (.inl 96))) (As := [.inl 1, .inl 0]) (rest := []) rfl mt_9_i288 pp_X9_goSecond (by decide) rfl rfl rfl (Nat.le_of_ble_eq_true rfl) (Nat.le_of_ble_eq_true rfl) ((g_X9_goSecond h360 hI (1 : Int32) (0 : Int32) (by decide)).mono (fun r375 h376 p377 => ?_))
                        obtain ⟨hJ, fj, ⟨kp378, kp379, kp380, kp381, kp382, kp383, kp384, kp385, kp386, kp387, xq388, xq389, -⟩, rfl⟩ := p377
                        have f390 := fj
                        have fr := fr.trans fj (by decide)
                        have hI := hJ
                        have fl196 : FR [96, 107, 108, 109, 117, 118, 121, 122] h185 h376 := fl196.trans fj (by decide)
                        have fl111 : FR [96, 107, 108, 109, 117, 118, 121, 122] h101 h376 := fl111.trans fj (by decide)
                        have fl18 : FR [96, 104, 107, 108, 109, 117, 118, 121, 122] h3 h376 := fl18.trans fj (by decide)
                        have s391 : (h376.1 97 1).toInt = (h360.1 97 1).toInt := by rw [(f390 97 (by decide)).1]
                        have s392 : (h376.1 97 5).toInt = (h360.1 97 5).toInt := by rw [(f390 97 (by decide)).1]
                        have s393 : (h376.1 97 0).toInt = (h360.1 97 0).toInt := by rw [(f390 97 (by decide)).1]
                        have s394 : (h376.1 97 3).toInt = (h360.1 97 3).toInt := by rw [(f390 97 (by decide)).1]
                        rw [← (f390 121 (by decide)).1] at xq347 xq348
                        have rq395 : h376.1 122 = h195.1 122 := (f390 122 (by decide)).1.trans rq372
                        have hK : kyOf h376 = zSecond e0 (1 : Int32) (0 : Int32) (kyOf h360) := by rw [xq388, hE, hK]
                        have hE : evOf h376 = e0 := xq389.trans hE
                        show RUN d_X9_layRound 210 [(1, .inl x112), (0, .inr (.inr (.inl 96)))] [] h376 _
                        refine R_aload_n (k := 0) rfl rfl rfl ?_
                        refine R_aload_n (k := 0) rfl rfl rfl ?_
                        refine R_getf_r (j := 40) rfl ft_9_91 sh_96 rfl ?_
                        refine R_callV (v := .inr (.inr (.inl 96))) (As := [.inr (.inr (.inl 122))]) (rest := []) rfl mt_9_i351 pp_X9_keepState (by decide) rfl rfl rfl (Nat.le_of_ble_eq_true rfl) (Nat.le_of_ble_eq_true rfl) ((g_X9_keepState_1 h376 hI).mono (fun r396 h397 p398 => ?_))
                        obtain ⟨hJ, fj, ⟨xq399, xq400, xq401, xq402, -⟩, rfl⟩ := p398
                        have f403 := fj
                        have fr := fr.trans fj (by decide)
                        have hI := hJ
                        have fl196 : FR [96, 107, 108, 109, 117, 118, 121, 122] h185 h397 := fl196.trans fj (by decide)
                        have fl111 : FR [96, 107, 108, 109, 117, 118, 121, 122] h101 h397 := fl111.trans fj (by decide)
                        have fl18 : FR [96, 104, 107, 108, 109, 117, 118, 121, 122] h3 h397 := fl18.trans fj (by decide)
                        have s404 : (h397.1 97 1).toInt = (h376.1 97 1).toInt := by rw [(f403 97 (by decide)).1]
                        have s405 : (h397.1 97 5).toInt = (h376.1 97 5).toInt := by rw [(f403 97 (by decide)).1]
                        have s406 : (h397.1 97 0).toInt = (h376.1 97 0).toInt := by rw [(f403 97 (by decide)).1]
                        have s407 : (h397.1 97 3).toInt = (h376.1 97 3).toInt := by rw [(f403 97 (by decide)).1]
                        have s408 : (h397.1 96 42).toInt = (h376.1 96 42).toInt := by rw [(f403 96 (by decide)).1]
                        have s409 : (h397.1 96 41).toInt = (h376.1 96 41).toInt := by rw [(f403 96 (by decide)).1]
                        rw [← (f403 121 (by decide)).1] at xq347 xq348
                        rw [hK, hE] at xq399
                        rw [hK] at xq400
                        have hK : kyOf h397 = zSecond e0 (1 : Int32) (0 : Int32) (kyOf h360) := xq401.trans hK
                        have hE : evOf h397 = e0 := xq402.trans hE
                        show RUN d_X9_layRound 218 [(1, .inl x112), (0, .inr (.inr (.inl 96)))] [] h397 _
                        refine R_aload_n (k := 0) rfl rfl rfl ?_
                        refine R_dup_r rfl ?_
                        refine R_getf_i (j := 41) rfl ft_9_362 sh_96 rfl ?_
                        refine R_iconst 1 rfl rfl ?_
                        refine R_iadd rfl ?_
                        refine N_eq (fun x410 e411 => ?_)
                        have q412 : x410.toInt = (h397.1 96 41).toInt + 1 := by rw [e411]; exact i_add rfl (by decide) (by omega)
                        refine K_putf (j := 41) (lo := (-2147483648)) (hi' := 2147483647) rfl ft_9_362 sh_96 rfl hI (by decide) rfl (i_rng _) fr (by decide) (fun h413 g414 hI fr => ?_)
                        have fl196 : FR [96, 107, 108, 109, 117, 118, 121, 122] h185 h413 := by rw [g414]; exact FR_wI _ _ fl196 (by decide)
                        have fl111 : FR [96, 107, 108, 109, 117, 118, 121, 122] h101 h413 := by rw [g414]; exact FR_wI _ _ fl111 (by decide)
                        have fl18 : FR [96, 104, 107, 108, 109, 117, 118, 121, 122] h3 h413 := by rw [g414]; exact FR_wI _ _ fl18 (by decide)
                        have s415 : (h413.1 97 1).toInt = (h397.1 97 1).toInt := by rw [g414, wI_ne _ _ _ (by decide)]
                        have s416 : (h413.1 97 5).toInt = (h397.1 97 5).toInt := by rw [g414, wI_ne _ _ _ (by decide)]
                        have s417 : (h413.1 97 0).toInt = (h397.1 97 0).toInt := by rw [g414, wI_ne _ _ _ (by decide)]
                        have s418 : (h413.1 97 3).toInt = (h397.1 97 3).toInt := by rw [g414, wI_ne _ _ _ (by decide)]
                        have s419 : (h413.1 96 42).toInt = (h397.1 96 42).toInt := by rw [g414, wI_at (by decide)]
                        have hK : kyOf h413 = zSecond e0 (1 : Int32) (0 : Int32) (kyOf h360) := by rw [g414, ky_s (by decide), hK]
                        have hE : evOf h413 = e0 := by rw [g414, ev_s (by decide), hE]
                        rw [← (show h413.1 121 = h397.1 121 from by rw [g414]; exact wI_ne _ _ _ (by decide))] at xq347 xq348
                        rw [← (show h413.1 122 = h397.1 122 from by rw [g414]; exact wI_ne _ _ _ (by decide))] at xq399 xq400
                        have s420 : (h413.1 96 41).toInt = x410.toInt := by rw [g414, wI_is]
                        refine R_goto 160 rfl rfl ?_
                        have ib421 := I160_next hLR hsl m203 (zq215 (by omega)) rq209 rq358 xq308 xq309 xq347 xq348 xq362 xq363 xq399 xq400 (by omega)
                        have ib421b := ib421.2
                        exact RUN_weak (psub_cons rfl (psub_cons rfl (psub_nil _))) (ih197 h413 hI fr fl196 (by omega) (by omega) (ib421.1) (hE) (m160 hz (by omega) ib421.2))
                have hl422 : AB (zTo e0 ((h149.1 96 42).toInt + 1).toNat) = wq P m r B L := by rw [show ((h149.1 96 42).toInt + 1).toNat = L + 1 by omega]; exact hto L (by omega)
                exact lp194 _ h185 hI fr (FR.rf _ _) rfl (by omega) (I160_init hLR hs0 (by omega) hto0 hl422 xq151 xq152 xq175 xq176) (hE) (Nat.lt_succ_self _)
              · exfalso; omega
            · show RUN d_X9_layRound 71 [(1, .inl x112), (0, .inr (.inr (.inl 96)))] [.inl x133] h110 _
              refine N_if_ne (a := x133.toInt) 126 rfl rfl rfl (fun c423 => ?_) (fun c423 => ?_)
              · exfalso; omega
              · refine R_iload_n (k := 1) rfl rfl rfl ?_
                refine R_aload_n (k := 0) rfl rfl rfl ?_
                refine R_getf_i (j := 42) rfl ft_9_355 sh_96 rfl ?_
                refine N_icmp_ne (a := x112.toInt) (b := (h110.1 96 42).toInt) 99 rfl rfl rfl rfl (fun c424 => ?_) (fun c424 => ?_)
                · refine R_aload_n (k := 0) rfl rfl rfl ?_
                  refine R_iconst 1 rfl rfl ?_
                  refine R_iconst 0 rfl rfl ?_
                  have k425 : (1 : Int32).toInt = 1 := by decide
                  have k426 : (0 : Int32).toInt = 0 := by decide
                  refine R_callV (v := .inr (.inr (.inl 96))) (As := [.inl 1, .inl 0]) (rest := []) rfl mt_9_i288 pp_X9_goSecond (by decide) rfl rfl rfl (Nat.le_of_ble_eq_true rfl) (Nat.le_of_ble_eq_true rfl) ((g_X9_goSecond h110 hI (1 : Int32) (0 : Int32) (by decide)).mono (fun r427 h428 p429 => ?_))
                  obtain ⟨hJ, fj, ⟨kp430, kp431, kp432, kp433, kp434, kp435, kp436, kp437, kp438, kp439, xq440, xq441, -⟩, rfl⟩ := p429
                  have f442 := fj
                  have fr := fr.trans fj (by decide)
                  have hI := hJ
                  have fl111 : FR [96, 107, 108, 109, 117, 118, 121, 122] h101 h428 := fl111.trans fj (by decide)
                  have fl18 : FR [96, 104, 107, 108, 109, 117, 118, 121, 122] h3 h428 := fl18.trans fj (by decide)
                  have s443 : (h428.1 97 1).toInt = (h110.1 97 1).toInt := by rw [(f442 97 (by decide)).1]
                  have s444 : (h428.1 97 5).toInt = (h110.1 97 5).toInt := by rw [(f442 97 (by decide)).1]
                  have s445 : (h428.1 97 0).toInt = (h110.1 97 0).toInt := by rw [(f442 97 (by decide)).1]
                  have s446 : (h428.1 97 3).toInt = (h110.1 97 3).toInt := by rw [(f442 97 (by decide)).1]
                  have rq447 : h428.1 121 = h110.1 121 := (f442 121 (by decide)).1.trans rq126
                  have rq448 : h428.1 122 = h110.1 122 := (f442 122 (by decide)).1.trans rq127
                  have hK : kyOf h428 = zSecond e0 (1 : Int32) (0 : Int32) (kyOf h110) := by rw [xq440, hE, hK]
                  have hE : evOf h428 = e0 := xq441.trans hE
                  show RUN d_X9_layRound 105 [(1, .inl x112), (0, .inr (.inr (.inl 96)))] [] h428 _
                  refine R_aload_n (k := 0) rfl rfl rfl ?_
                  refine R_aload_n (k := 0) rfl rfl rfl ?_
                  refine R_getf_r (j := 40) rfl ft_9_91 sh_96 rfl ?_
                  refine R_callV (v := .inr (.inr (.inl 96))) (As := [.inr (.inr (.inl 122))]) (rest := []) rfl mt_9_i351 pp_X9_keepState (by decide) rfl rfl rfl (Nat.le_of_ble_eq_true rfl) (Nat.le_of_ble_eq_true rfl) ((g_X9_keepState_1 h428 hI).mono (fun r449 h450 p451 => ?_))
                  obtain ⟨hJ, fj, ⟨xq452, xq453, xq454, xq455, -⟩, rfl⟩ := p451
                  have f456 := fj
                  have fr := fr.trans fj (by decide)
                  have hI := hJ
                  have fl111 : FR [96, 107, 108, 109, 117, 118, 121, 122] h101 h450 := fl111.trans fj (by decide)
                  have fl18 : FR [96, 104, 107, 108, 109, 117, 118, 121, 122] h3 h450 := fl18.trans fj (by decide)
                  have s457 : (h450.1 97 1).toInt = (h428.1 97 1).toInt := by rw [(f456 97 (by decide)).1]
                  have s458 : (h450.1 97 5).toInt = (h428.1 97 5).toInt := by rw [(f456 97 (by decide)).1]
                  have s459 : (h450.1 97 0).toInt = (h428.1 97 0).toInt := by rw [(f456 97 (by decide)).1]
                  have s460 : (h450.1 97 3).toInt = (h428.1 97 3).toInt := by rw [(f456 97 (by decide)).1]
                  have s461 : (h450.1 96 42).toInt = (h428.1 96 42).toInt := by rw [(f456 96 (by decide)).1]
                  have rq462 : h450.1 121 = h110.1 121 := (f456 121 (by decide)).1.trans rq447
                  rw [hK, hE] at xq452
                  rw [hK] at xq453
                  have hK : kyOf h450 = zSecond e0 (1 : Int32) (0 : Int32) (kyOf h110) := xq454.trans hK
                  have hE : evOf h450 = e0 := xq455.trans hE
                  show RUN d_X9_layRound 113 [(1, .inl x112), (0, .inr (.inr (.inl 96)))] [] h450 _
                  refine R_aload_n (k := 0) rfl rfl rfl ?_
                  refine R_dup_r rfl ?_
                  refine R_getf_i (j := 42) rfl ft_9_355 sh_96 rfl ?_
                  refine R_iconst 1 rfl rfl ?_
                  refine R_iadd rfl ?_
                  refine N_eq (fun x463 e464 => ?_)
                  have q465 : x463.toInt = (h450.1 96 42).toInt + 1 := by rw [e464]; exact i_add rfl (by decide) (by omega)
                  refine K_putf (j := 42) (lo := (-2147483648)) (hi' := 2147483647) rfl ft_9_355 sh_96 rfl hI (by decide) rfl (i_rng _) fr (by decide) (fun h466 g467 hI fr => ?_)
                  have fl111 : FR [96, 107, 108, 109, 117, 118, 121, 122] h101 h466 := by rw [g467]; exact FR_wI _ _ fl111 (by decide)
                  have fl18 : FR [96, 104, 107, 108, 109, 117, 118, 121, 122] h3 h466 := by rw [g467]; exact FR_wI _ _ fl18 (by decide)
                  have s468 : (h466.1 97 1).toInt = (h450.1 97 1).toInt := by rw [g467, wI_ne _ _ _ (by decide)]
                  have s469 : (h466.1 97 5).toInt = (h450.1 97 5).toInt := by rw [g467, wI_ne _ _ _ (by decide)]
                  have s470 : (h466.1 97 0).toInt = (h450.1 97 0).toInt := by rw [g467, wI_ne _ _ _ (by decide)]
                  have s471 : (h466.1 97 3).toInt = (h450.1 97 3).toInt := by rw [g467, wI_ne _ _ _ (by decide)]
                  have hK : kyOf h466 = zSecond e0 (1 : Int32) (0 : Int32) (kyOf h110) := by rw [g467, ky_s (by decide), hK]
                  have hE : evOf h466 = e0 := by rw [g467, ev_s (by decide), hE]
                  rw [← (show h466.1 122 = h450.1 122 from by rw [g467]; exact wI_ne _ _ _ (by decide))] at xq452 xq453
                  have rq472 : h466.1 121 = h110.1 121 := (show h466.1 121 = h450.1 121 from by rw [g467]; exact wI_ne _ _ _ (by decide)).trans rq462
                  have s473 : (h466.1 96 42).toInt = x463.toInt := by rw [g467, wI_is]
                  refine R_goto 60 rfl rfl ?_
                  have ib474 := I60_A hLR m120 (zq132 (by omega)) (by omega) hK rq472 xq452 xq453 (by omega)
                  have ib474b := ib474.2
                  exact RUN_weak (psub_cons rfl (psub_cons rfl (psub_nil _))) (ih113 h466 x112 hI fr fl111 (by omega) (by omega) (by omega) (ib474.1) (hE) (by omega))
                · refine R_aload_n (k := 0) rfl rfl rfl ?_
                  refine R_aload_n (k := 0) rfl rfl rfl ?_
                  refine R_getf_r (j := 39) rfl ft_9_88 sh_96 rfl ?_
                  refine R_callV (v := .inr (.inr (.inl 96))) (As := [.inr (.inr (.inl 121))]) (rest := []) rfl mt_9_i351 pp_X9_keepState (by decide) rfl rfl rfl (Nat.le_of_ble_eq_true rfl) (Nat.le_of_ble_eq_true rfl) ((g_X9_keepState h110 hI).mono (fun r475 h476 p477 => ?_))
                  obtain ⟨hJ, fj, ⟨xq478, xq479, xq480, xq481, -⟩, rfl⟩ := p477
                  have f482 := fj
                  have fr := fr.trans fj (by decide)
                  have hI := hJ
                  have fl111 : FR [96, 107, 108, 109, 117, 118, 121, 122] h101 h476 := fl111.trans fj (by decide)
                  have fl18 : FR [96, 104, 107, 108, 109, 117, 118, 121, 122] h3 h476 := fl18.trans fj (by decide)
                  have s483 : (h476.1 97 1).toInt = (h110.1 97 1).toInt := by rw [(f482 97 (by decide)).1]
                  have s484 : (h476.1 97 5).toInt = (h110.1 97 5).toInt := by rw [(f482 97 (by decide)).1]
                  have s485 : (h476.1 97 0).toInt = (h110.1 97 0).toInt := by rw [(f482 97 (by decide)).1]
                  have s486 : (h476.1 97 3).toInt = (h110.1 97 3).toInt := by rw [(f482 97 (by decide)).1]
                  have s487 : (h476.1 96 42).toInt = (h110.1 96 42).toInt := by rw [(f482 96 (by decide)).1]
                  have rq488 : h476.1 122 = h110.1 122 := (f482 122 (by decide)).1.trans rq127
                  rw [hK, hE] at xq478
                  rw [hK] at xq479
                  have hK : kyOf h476 = kyOf h110 := xq480.trans hK
                  have hE : evOf h476 = e0 := xq481.trans hE
                  show RUN d_X9_layRound 90 [(1, .inl x112), (0, .inr (.inr (.inl 96)))] [] h476 _
                  refine R_iload_n (k := 1) rfl rfl rfl ?_
                  refine R_iconst 2 rfl rfl ?_
                  refine R_imul rfl ?_
                  refine N_eq (fun x489 e490 => ?_)
                  have q491 : x489.toInt = x112.toInt * 2 := by rw [e490]; exact i_mul rfl (by decide) (by omega)
                  refine R_istore_n (k := 1) rfl [(1, .inl x489), (0, .inr (.inr (.inl 96)))] rfl rfl (by decide) ?_
                  refine R_aload_n (k := 0) rfl rfl rfl ?_
                  refine R_iconst 0 rfl rfl ?_
                  refine K_putf (j := 42) (lo := (-2147483648)) (hi' := 2147483647) rfl ft_9_355 sh_96 rfl hI (by decide) rfl (by decide) fr (by decide) (fun h492 g493 hI fr => ?_)
                  have fl111 : FR [96, 107, 108, 109, 117, 118, 121, 122] h101 h492 := by rw [g493]; exact FR_wI _ _ fl111 (by decide)
                  have fl18 : FR [96, 104, 107, 108, 109, 117, 118, 121, 122] h3 h492 := by rw [g493]; exact FR_wI _ _ fl18 (by decide)
                  have s494 : (h492.1 97 1).toInt = (h476.1 97 1).toInt := by rw [g493, wI_ne _ _ _ (by decide)]
                  have s495 : (h492.1 97 5).toInt = (h476.1 97 5).toInt := by rw [g493, wI_ne _ _ _ (by decide)]
                  have s496 : (h492.1 97 0).toInt = (h476.1 97 0).toInt := by rw [g493, wI_ne _ _ _ (by decide)]
                  have s497 : (h492.1 97 3).toInt = (h476.1 97 3).toInt := by rw [g493, wI_ne _ _ _ (by decide)]
                  have hK : kyOf h492 = kyOf h110 := by rw [g493, ky_s (by decide), hK]
                  have hE : evOf h492 = e0 := by rw [g493, ev_s (by decide), hE]
                  rw [← (show h492.1 121 = h476.1 121 from by rw [g493]; exact wI_ne _ _ _ (by decide))] at xq478 xq479
                  have rq498 : h492.1 122 = h110.1 122 := (show h492.1 122 = h476.1 122 from by rw [g493]; exact wI_ne _ _ _ (by decide)).trans rq488
                  have s499 : (h492.1 96 42).toInt = 0 := by rw [g493, wI_is]; rfl
                  refine R_aload_n (k := 0) rfl rfl rfl ?_
                  refine R_iconst 1 rfl rfl ?_
                  refine R_iconst 0 rfl rfl ?_
                  have k500 : (1 : Int32).toInt = 1 := by decide
                  have k501 : (0 : Int32).toInt = 0 := by decide
                  refine R_callV (v := .inr (.inr (.inl 96))) (As := [.inl 1, .inl 0]) (rest := []) rfl mt_9_i288 pp_X9_goSecond (by decide) rfl rfl rfl (Nat.le_of_ble_eq_true rfl) (Nat.le_of_ble_eq_true rfl) ((g_X9_goSecond h492 hI (1 : Int32) (0 : Int32) (by decide)).mono (fun r502 h503 p504 => ?_))
                  obtain ⟨hJ, fj, ⟨kp505, kp506, kp507, kp508, kp509, kp510, kp511, kp512, kp513, kp514, xq515, xq516, -⟩, rfl⟩ := p504
                  have f517 := fj
                  have fr := fr.trans fj (by decide)
                  have hI := hJ
                  have fl111 : FR [96, 107, 108, 109, 117, 118, 121, 122] h101 h503 := fl111.trans fj (by decide)
                  have fl18 : FR [96, 104, 107, 108, 109, 117, 118, 121, 122] h3 h503 := fl18.trans fj (by decide)
                  have s518 : (h503.1 97 1).toInt = (h492.1 97 1).toInt := by rw [(f517 97 (by decide)).1]
                  have s519 : (h503.1 97 5).toInt = (h492.1 97 5).toInt := by rw [(f517 97 (by decide)).1]
                  have s520 : (h503.1 97 0).toInt = (h492.1 97 0).toInt := by rw [(f517 97 (by decide)).1]
                  have s521 : (h503.1 97 3).toInt = (h492.1 97 3).toInt := by rw [(f517 97 (by decide)).1]
                  rw [← (f517 121 (by decide)).1] at xq478 xq479
                  have rq522 : h503.1 122 = h110.1 122 := (f517 122 (by decide)).1.trans rq498
                  have hK : kyOf h503 = zSecond e0 (1 : Int32) (0 : Int32) (kyOf h110) := by rw [xq515, hE, hK]
                  have hE : evOf h503 = e0 := xq516.trans hE
                  show RUN d_X9_layRound 105 [(1, .inl x489), (0, .inr (.inr (.inl 96)))] [] h503 _
                  refine R_aload_n (k := 0) rfl rfl rfl ?_
                  refine R_aload_n (k := 0) rfl rfl rfl ?_
                  refine R_getf_r (j := 40) rfl ft_9_91 sh_96 rfl ?_
                  refine R_callV (v := .inr (.inr (.inl 96))) (As := [.inr (.inr (.inl 122))]) (rest := []) rfl mt_9_i351 pp_X9_keepState (by decide) rfl rfl rfl (Nat.le_of_ble_eq_true rfl) (Nat.le_of_ble_eq_true rfl) ((g_X9_keepState_1 h503 hI).mono (fun r523 h524 p525 => ?_))
                  obtain ⟨hJ, fj, ⟨xq526, xq527, xq528, xq529, -⟩, rfl⟩ := p525
                  have f530 := fj
                  have fr := fr.trans fj (by decide)
                  have hI := hJ
                  have fl111 : FR [96, 107, 108, 109, 117, 118, 121, 122] h101 h524 := fl111.trans fj (by decide)
                  have fl18 : FR [96, 104, 107, 108, 109, 117, 118, 121, 122] h3 h524 := fl18.trans fj (by decide)
                  have s531 : (h524.1 97 1).toInt = (h503.1 97 1).toInt := by rw [(f530 97 (by decide)).1]
                  have s532 : (h524.1 97 5).toInt = (h503.1 97 5).toInt := by rw [(f530 97 (by decide)).1]
                  have s533 : (h524.1 97 0).toInt = (h503.1 97 0).toInt := by rw [(f530 97 (by decide)).1]
                  have s534 : (h524.1 97 3).toInt = (h503.1 97 3).toInt := by rw [(f530 97 (by decide)).1]
                  have s535 : (h524.1 96 42).toInt = (h503.1 96 42).toInt := by rw [(f530 96 (by decide)).1]
                  rw [← (f530 121 (by decide)).1] at xq478 xq479
                  rw [hK, hE] at xq526
                  rw [hK] at xq527
                  have hK : kyOf h524 = zSecond e0 (1 : Int32) (0 : Int32) (kyOf h110) := xq528.trans hK
                  have hE : evOf h524 = e0 := xq529.trans hE
                  show RUN d_X9_layRound 113 [(1, .inl x489), (0, .inr (.inr (.inl 96)))] [] h524 _
                  refine R_aload_n (k := 0) rfl rfl rfl ?_
                  refine R_dup_r rfl ?_
                  refine R_getf_i (j := 42) rfl ft_9_355 sh_96 rfl ?_
                  refine R_iconst 1 rfl rfl ?_
                  refine R_iadd rfl ?_
                  refine N_eq (fun x536 e537 => ?_)
                  have q538 : x536.toInt = (h524.1 96 42).toInt + 1 := by rw [e537]; exact i_add rfl (by decide) (by omega)
                  refine K_putf (j := 42) (lo := (-2147483648)) (hi' := 2147483647) rfl ft_9_355 sh_96 rfl hI (by decide) rfl (i_rng _) fr (by decide) (fun h539 g540 hI fr => ?_)
                  have fl111 : FR [96, 107, 108, 109, 117, 118, 121, 122] h101 h539 := by rw [g540]; exact FR_wI _ _ fl111 (by decide)
                  have fl18 : FR [96, 104, 107, 108, 109, 117, 118, 121, 122] h3 h539 := by rw [g540]; exact FR_wI _ _ fl18 (by decide)
                  have s541 : (h539.1 97 1).toInt = (h524.1 97 1).toInt := by rw [g540, wI_ne _ _ _ (by decide)]
                  have s542 : (h539.1 97 5).toInt = (h524.1 97 5).toInt := by rw [g540, wI_ne _ _ _ (by decide)]
                  have s543 : (h539.1 97 0).toInt = (h524.1 97 0).toInt := by rw [g540, wI_ne _ _ _ (by decide)]
                  have s544 : (h539.1 97 3).toInt = (h524.1 97 3).toInt := by rw [g540, wI_ne _ _ _ (by decide)]
                  have hK : kyOf h539 = zSecond e0 (1 : Int32) (0 : Int32) (kyOf h110) := by rw [g540, ky_s (by decide), hK]
                  have hE : evOf h539 = e0 := by rw [g540, ev_s (by decide), hE]
                  rw [← (show h539.1 121 = h524.1 121 from by rw [g540]; exact wI_ne _ _ _ (by decide))] at xq478 xq479
                  rw [← (show h539.1 122 = h524.1 122 from by rw [g540]; exact wI_ne _ _ _ (by decide))] at xq526 xq527
                  have s545 : (h539.1 96 42).toInt = x536.toInt := by rw [g540, wI_is]
                  refine R_goto 60 rfl rfl ?_
                  have ib546 := I60_B (x' := x489) hLR m120 (zq132 (by omega)) (by omega) hK xq478 xq479 xq526 xq527 (by omega) (by omega)
                  have ib546b := ib546.2
                  exact RUN_weak (psub_cons rfl (psub_cons rfl (psub_nil _))) (ih113 h539 x489 hI fr fl111 (by omega) (by omega) (by omega) (ib546.1) (hE) (by omega))
        have k547 : (1 : Int32).toInt = 1 := by decide
        exact lp109 _ h101 (1 : Int32) hI fr (FR.rf _ _) (by decide) (by omega) (by omega) (I60_init hLR (k := zTo e0 ((0 : Int32).toInt + 1).toNat) (by omega) hto0 hK xq54 xq55 xq91 xq92) (hE) (Nat.lt_succ_self _)
      · refine R_aload_n (k := 0) rfl rfl rfl ?_
        refine R_getf_r (j := 16) rfl ft_9_37 sh_96 rfl ?_
        refine R_iload_n (k := 1) rfl rfl rfl ?_
        refine R_iconst 0 rfl rfl ?_
        refine K_zast (a := x19.toInt) rfl sh_104 rfl ⟨by omega, by omega⟩ hI (by decide) rfl fr (by decide) (fun h548 g549 hI fr => ?_)
        have fl18 : FR [96, 104, 107, 108, 109, 117, 118, 121, 122] h3 h548 := by rw [g549]; exact FR_wI _ _ fl18 (by decide)
        have s550 : (h548.1 96 42).toInt = (h17.1 96 42).toInt := by rw [g549, wI_ne _ _ _ (by decide)]
        have s551 : (h548.1 97 1).toInt = (h17.1 97 1).toInt := by rw [g549, wI_ne _ _ _ (by decide)]
        have s552 : (h548.1 97 5).toInt = (h17.1 97 5).toInt := by rw [g549, wI_ne _ _ _ (by decide)]
        have s553 : (h548.1 97 0).toInt = (h17.1 97 0).toInt := by rw [g549, wI_ne _ _ _ (by decide)]
        have s554 : (h548.1 96 18).toInt = (h17.1 96 18).toInt := by rw [g549, wI_ne _ _ _ (by decide)]
        have s555 : (h548.1 96 19).toInt = (h17.1 96 19).toInt := by rw [g549, wI_ne _ _ _ (by decide)]
        have rq556 : h548.1 121 = h17.1 121 := (show h548.1 121 = h17.1 121 from by rw [g549]; exact wI_ne _ _ _ (by decide)).trans rq33
        have rq557 : h548.1 122 = h17.1 122 := (show h548.1 122 = h17.1 122 from by rw [g549]; exact wI_ne _ _ _ (by decide)).trans rq34
        have hA : AIS h548 := by rw [g549]; exact AIS_o (by decide) hA
        refine N_iinc (a := x19.toInt) (c := 1) (fun w => [(1, .inl w), (0, .inr (.inr (.inl 96)))]) rfl rfl (fun _ => rfl) (by decide) rfl (by decide) (by omega) (fun x558 q559 => ?_)
        refine R_goto 6 rfl rfl ?_
        exact RUN_weak (psub_cons rfl (psub_cons rfl (psub_nil _))) (ih20 h548 x558 hI fr fl18 (by omega) (by omega) (by omega) trivial (by rw [g549, wI_self]; exact z0_step (x := x19) (x' := x558) m28 (by decide) (by omega) (by omega)) (hA) (by omega))
  have k560 : (0 : Int32).toInt = 0 := by decide
  exact lp16 _ h3 (0 : Int32) hI fr (FR.rf _ _) (by decide) rfl rfl trivial (fun j hj => absurd hj (by omega)) (hA) (Nat.lt_succ_self _)

abbrev qg_X9_bit (h : PH) (a0 : Int32) (a1 : Int32) : Option PV → PH → Prop := fun r h' => h = h' ∧ ∃ z : Int32, r = some (.inl z) ∧ (((0 ≤ z.toInt ∧ z.toInt ≤ 1)) ∧ (0 ≤ a1.toInt ∧ a1.toInt ≤ 7 ∧ a0.toInt = 0 → z.toInt = 0) ∧ (bitS a1.toInt a0.toInt z.toInt) ∧ True)
set_option maxHeartbeats 4000000 in
set_option maxRecDepth 100000 in
theorem g_X9_bit (h : PH) (hI : INV h) (a0 : Int32) (a1 : Int32) (h1a : 0 ≤ a1.toInt ∧ a1.toInt ≤ 7) : CALL d_X9_bit [.inl a0, .inl a1] h (qg_X9_bit h a0 a1) := by
  show RUN d_X9_bit 0 [(0, .inl a0), (1, .inl a1)] [] h _
  have b1 := i_rng a0
  refine R_iload_n (k := 0) rfl rfl rfl ?_
  refine R_iload_n (k := 1) rfl rfl rfl ?_
  refine R_ishr rfl ?_
  refine N_eq (fun x2 e3 => ?_)
  refine R_iconst 1 rfl rfl ?_
  refine R_iand rfl ?_
  refine N_eq (fun x4 e5 => ?_)
  have q6 : 0 ≤ x4.toInt ∧ x4.toInt ≤ 1 := by rw [e5]; exact i_and (by decide) (by omega)
  exact R_iret rfl rfl rfl ⟨rfl, _, rfl, ⟨by omega, (fun hc => by subst e5 e3; exact bit0 ⟨hc.1, hc.2.1⟩ hc.2.2), (fun j c1 c2 c3 c4 => by subst e5 e3; exact bit1 c3 c2 c4 c1), trivial⟩⟩

abbrev qg_X9_laySlips (h : PH) (a0 : Int32) (a1 : Int32) : Option PV → PH → Prop := fun r h' => INV h' ∧ FR [96, 103, 104, 105, 106, 107, 108, 109, 110, 111, 112, 113, 114, 115, 116, 117, 118, 119] h h' ∧ ((¬ (h'.2 96 54).toInt = 0) ∧ True) ∧ r = none
set_option maxHeartbeats 4000000 in
set_option maxRecDepth 100000 in
theorem g_X9_laySlips (h : PH) (hI : INV h) (a0 : Int32) (a1 : Int32) (h0a : 0 ≤ a0.toInt ∧ a0.toInt ≤ 7) (h1a : 0 ≤ a1.toInt ∧ a1.toInt ≤ 9) : CALL d_X9_laySlips [.inr (.inr (.inl 96)), .inl a0, .inl a1] h (qg_X9_laySlips h a0 a1) := by
  show RUN d_X9_laySlips 0 [(0, .inr (.inr (.inl 96))), (1, .inl a0), (2, .inl a1)] [] h _
  have fr : FR [96, 103, 104, 105, 106, 107, 108, 109, 110, 111, 112, 113, 114, 115, 116, 117, 118, 119] h h := FR.rf _ _
  have b1 : (0 : Int) ≤ (h.1 97 4).toInt ∧ (h.1 97 4).toInt ≤ 10 := hI.1 97 4
  refine R_aload_n (k := 0) rfl rfl rfl ?_
  refine R_lconst 0 rfl rfl ?_
  refine K_putl (j := 54) rfl ft_9_479 sh_96 rfl hI fr (by decide) (fun h2 g3 hI fr => ?_)
  have s4 : (h2.1 97 4).toInt = (h.1 97 4).toInt := by rw [g3, wL_fst]
  have hO : h2.2 96 54 = (0 : Int64) := by rw [g3, wL_is]
  refine R_aload_n (k := 0) rfl rfl rfl ?_
  refine R_lconst 0 rfl rfl ?_
  refine K_putl (j := 55) rfl ft_9_483 sh_96 rfl hI fr (by decide) (fun h5 g6 hI fr => ?_)
  have s7 : (h5.1 97 4).toInt = (h2.1 97 4).toInt := by rw [g6, wL_fst]
  have hO : h5.2 96 54 = (0 : Int64) := by rw [g6, wL_at (by decide)]; exact hO
  refine R_aload_n (k := 0) rfl rfl rfl ?_
  refine R_lconst 0 rfl rfl ?_
  refine K_putl (j := 56) rfl ft_9_486 sh_96 rfl hI fr (by decide) (fun h8 g9 hI fr => ?_)
  have s10 : (h8.1 97 4).toInt = (h5.1 97 4).toInt := by rw [g9, wL_fst]
  have hO : h8.2 96 54 = (0 : Int64) := by rw [g9, wL_at (by decide)]; exact hO
  refine R_aload_n (k := 0) rfl rfl rfl ?_
  refine R_callV (v := .inr (.inr (.inl 96))) (As := []) (rest := []) rfl mt_9_i298 pp_X9_asItIs (by decide) rfl rfl rfl (Nat.le_of_ble_eq_true rfl) (Nat.le_of_ble_eq_true rfl) ((CALL_nl NLS_ok NL_X9_asItIs (g_X9_asItIs h8 hI)).mono (fun r11 h12 p13 => ?_))
  obtain ⟨⟨hJ, fj, ⟨kp14, xq15, xq16, xq17, -⟩, rfl⟩, nl⟩ := p13
  have hO : h12.2 96 54 = (0 : Int64) := (congrFun (congrFun nl 96) 54).trans hO
  have f18 := fj
  have fr := fr.trans fj (by decide)
  have hI := hJ
  have s19 : (h12.1 97 4).toInt = (h8.1 97 4).toInt := by rw [(f18 97 (by decide)).1]
  have b20 : (0 : Int) ≤ (h12.1 97 5).toInt ∧ (h12.1 97 5).toInt ≤ 6 := hI.1 97 5
  have b21 : (0 : Int) ≤ (h12.1 97 0).toInt ∧ (h12.1 97 0).toInt ≤ 60 := hI.1 97 0
  have e22 : 0 < (h12.1 97 5).toInt → 1 ≤ (h12.1 97 0).toInt := hI.2.2.2.2.2.1.2.2
  have b23 : (0 : Int) ≤ (h12.1 97 1).toInt ∧ (h12.1 97 1).toInt ≤ 8 := hI.1 97 1
  have b24 : (0 : Int) ≤ (h12.1 96 18).toInt ∧ (h12.1 96 18).toInt ≤ 6 := hI.1 96 18
  show RUN d_X9_laySlips 19 [(0, .inr (.inr (.inl 96))), (1, .inl a0), (2, .inl a1)] [] h12 _
  refine R_iconst 0 rfl rfl ?_
  refine R_istore_n (k := 3) rfl [(3, .inl 0), (0, .inr (.inr (.inl 96))), (1, .inl a0), (2, .inl a1)] rfl rfl (by decide) ?_
  have lp26 : ∀ (n25 : Nat) (h27 : PH) (x29 : Int32), INV h27 → FR [96, 103, 104, 105, 106, 107, 108, 109, 110, 111, 112, 113, 114, 115, 116, 117, 118, 119] h h27 → FR [96, 106, 107, 108, 109, 110, 111, 112, 113, 114, 115, 116, 117, 118, 119] h12 h27 → 0 ≤ x29.toInt ∧ x29.toInt ≤ 256 → (h27.1 96 18).toInt = (h12.1 96 18).toInt → (h27.1 96 19).toInt = (h12.1 96 19).toInt → (0 ≤ (h27.2 96 54).toInt ∧ (h27.2 96 54).toInt ≤ x29.toInt * 100000000) → ((h.1 97 4).toInt < 10 → 0 < x29.toInt → 0 < (h27.2 96 54).toInt) → (I3 (h.1 97 4).toInt a0.toInt x29.toInt (h27.2 96 54).toInt) → (True) → (256 - x29.toInt).toNat < n25 → RUN d_X9_laySlips 21 [(3, .inl x29), (0, .inr (.inr (.inl 96))), (1, .inl a0), (2, .inl a1)] [] h27 (qg_X9_laySlips h a0 a1) := by
    intro n25
    induction n25 with
    | zero => intro h27 x29 m31 m32 m33 m34 m35 m36 m37 m38 m39 m40 hz; exact absurd hz (Nat.not_lt_zero _)
    | succ n25 ih30 =>
      intro h27 x29 hI fr fl28 m34 m35 m36 m37 m38 m39 m40 hz
      have s41 : (h27.1 97 4).toInt = (h12.1 97 4).toInt := by rw [(fl28 97 (by decide)).1]
      have s42 : (h27.1 97 5).toInt = (h12.1 97 5).toInt := by rw [(fl28 97 (by decide)).1]
      have s43 : (h27.1 97 0).toInt = (h12.1 97 0).toInt := by rw [(fl28 97 (by decide)).1]
      have s44 : (h27.1 97 1).toInt = (h12.1 97 1).toInt := by rw [(fl28 97 (by decide)).1]
      have hO : h27.2 96 54 = h27.2 96 54 := rfl
      refine R_iload_n (k := 3) rfl rfl rfl ?_
      refine R_iconst 2 rfl rfl ?_
      refine R_iload_n (k := 1) rfl rfl rfl ?_
      refine R_ishl rfl ?_
      refine N_eq (fun x45 e46 => ?_)
      have qb48 := shl2b e46 (by omega)
      have ql49 := shl2p e46 (by omega)
      refine N_icmp_ge (a := x29.toInt) (b := x45.toInt) 179 rfl rfl rfl rfl (fun c50 => ?_) (fun c50 => ?_)
      · have hPo : 0 < (h27.2 96 54).toInt := by
          by_cases cO : (h.1 97 4).toInt < 10
          · exact m38 cO (by omega)
          · exact m39 (by omega) (by rw [← ql49]; omega)
        exact R_vret rfl rfl ⟨hI, fr, ⟨by omega, trivial⟩, rfl⟩
      · refine R_lconst 1 rfl rfl ?_
        refine R_lstore (k := 4) [(4, .inr (.inl 1)), (3, .inl x29), (0, .inr (.inr (.inl 96))), (1, .inl a0), (2, .inl a1)] rfl rfl (by decide) ?_
        refine R_iconst 0 rfl rfl ?_
        refine R_istore (k := 6) [(6, .inl 0), (4, .inr (.inl 1)), (3, .inl x29), (0, .inr (.inr (.inl 96))), (1, .inl a0), (2, .inl a1)] rfl rfl (by decide) ?_
        have lp52 : ∀ (n51 : Nat) (h53 : PH) (w55 : Int64) (x56 : Int32), INV h53 → FR [96, 103, 104, 105, 106, 107, 108, 109, 110, 111, 112, 113, 114, 115, 116, 117, 118, 119] h h53 → FR [96, 106, 107, 108, 109, 110, 111, 112, 113, 114, 115, 116, 117, 118, 119] h27 h53 → 0 ≤ x56.toInt ∧ x56.toInt ≤ 8 → (h53.1 96 18).toInt = (h27.1 96 18).toInt → (h53.1 96 19).toInt = (h27.1 96 19).toInt → (w55.toInt ≤ (10 : Int) ^ x56.toInt.toNat) → (0 ≤ w55.toInt) → ((h.1 97 4).toInt < 10 → x29.toInt = 0 → 0 < w55.toInt) → (I4 (h.1 97 4).toInt a0.toInt x29.toInt w55.toInt) → (h53.2 96 54 = h27.2 96 54) → (8 - x56.toInt).toNat < n51 → RUN d_X9_laySlips 34 [(6, .inl x56), (4, .inr (.inl w55)), (3, .inl x29), (0, .inr (.inr (.inl 96))), (1, .inl a0), (2, .inl a1)] [] h53 (qg_X9_laySlips h a0 a1) := by
          intro n51
          induction n51 with
          | zero => intro h53 w55 x56 m58 m59 m60 m61 m62 m63 m64 m65 m66 m67 m68 hz; exact absurd hz (Nat.not_lt_zero _)
          | succ n51 ih57 =>
            intro h53 w55 x56 hI fr fl54 m61 m62 m63 m64 m65 m66 m67 m68 hz
            have s69 : (h53.1 97 4).toInt = (h27.1 97 4).toInt := by rw [(fl54 97 (by decide)).1]
            have s70 : (h53.1 97 5).toInt = (h27.1 97 5).toInt := by rw [(fl54 97 (by decide)).1]
            have s71 : (h53.1 97 0).toInt = (h27.1 97 0).toInt := by rw [(fl54 97 (by decide)).1]
            have s72 : (h53.1 97 1).toInt = (h27.1 97 1).toInt := by rw [(fl54 97 (by decide)).1]
            have fl28 : FR [96, 106, 107, 108, 109, 110, 111, 112, 113, 114, 115, 116, 117, 118, 119] h12 h53 := fl28.trans fl54 (by decide)
            have hO := m68
            refine R_iload (k := 6) rfl rfl ?_
            refine R_iload_n (k := 1) rfl rfl rfl ?_
            refine N_icmp_gt (a := x56.toInt) (b := a0.toInt) 103 rfl rfl rfl rfl (fun c73 => ?_) (fun c73 => ?_)
            · have vb74 := Int.le_trans m64 (p8 (by omega))
              refine R_lload (k := 4) rfl rfl ?_
              refine R_lconst 0 rfl rfl ?_
              refine N_lcmp (a := w55.toInt) (b := 0) rfl rfl (by decide) (fun x75 q76 => ?_)
              refine N_if_ne (a := x75.toInt) 113 rfl rfl rfl (fun c77 => ?_) (fun c77 => ?_)
              · refine R_aload_n (k := 0) rfl rfl rfl ?_
                refine R_iload_n (k := 1) rfl rfl rfl ?_
                refine R_callV (v := .inr (.inr (.inl 96))) (As := [.inl a0]) (rest := []) rfl mt_9_i304 pp_X9_goAll (by decide) rfl rfl rfl (Nat.le_of_ble_eq_true rfl) (Nat.le_of_ble_eq_true rfl) ((CALL_nl NLS_ok NL_X9_goAll (g_X9_goAll h53 hI a0 (by omega))).mono (fun r78 h79 p80 => ?_))
                obtain ⟨⟨hJ, fj, ⟨kp81, kp82, kp83, kp84, kp85, kp86, kp87, kp88, xq89, xq90, xq91, -⟩, rfl⟩, nl⟩ := p80
                have hO : h79.2 96 54 = h27.2 96 54 := (congrFun (congrFun nl 96) 54).trans hO
                have f92 := fj
                have fr := fr.trans fj (by decide)
                have hI := hJ
                have fl54 : FR [96, 106, 107, 108, 109, 110, 111, 112, 113, 114, 115, 116, 117, 118, 119] h27 h79 := fl54.trans fj (by decide)
                have fl28 : FR [96, 106, 107, 108, 109, 110, 111, 112, 113, 114, 115, 116, 117, 118, 119] h12 h79 := fl28.trans fj (by decide)
                have s93 : (h79.1 97 4).toInt = (h53.1 97 4).toInt := by rw [(f92 97 (by decide)).1]
                have s94 : (h79.1 97 5).toInt = (h53.1 97 5).toInt := by rw [(f92 97 (by decide)).1]
                have s95 : (h79.1 97 0).toInt = (h53.1 97 0).toInt := by rw [(f92 97 (by decide)).1]
                have s96 : (h79.1 97 1).toInt = (h53.1 97 1).toInt := by rw [(f92 97 (by decide)).1]
                show RUN d_X9_laySlips 118 [(6, .inl x56), (4, .inr (.inl w55)), (3, .inl x29), (0, .inr (.inr (.inl 96))), (1, .inl a0), (2, .inl a1)] [] h79 _
                refine R_aload_n (k := 0) rfl rfl rfl ?_
                refine R_dup_r rfl ?_
                refine R_getf_l (j := 54) rfl ft_9_479 sh_96 rfl ?_
                refine N_eqL (fun w97 e98 => ?_)
                have q99 : w97.toInt = (h79.2 96 54).toInt := by rw [e98]
                refine R_lload (k := 4) rfl rfl ?_
                refine R_ladd rfl ?_
                refine N_eqL (fun w100 e101 => ?_)
                have qo102 : w97.toInt = (h27.2 96 54).toInt := by rw [e98, hO]
                have qs103 : w100.toInt = w97.toInt + w55.toInt := by rw [e101]; exact l_add rfl rfl (by omega)
                refine K_putl (j := 54) rfl ft_9_479 sh_96 rfl hI fr (by decide) (fun h104 g105 hI fr => ?_)
                have fl54 : FR [96, 106, 107, 108, 109, 110, 111, 112, 113, 114, 115, 116, 117, 118, 119] h27 h104 := by rw [g105]; exact FR_wL _ _ fl54 (by decide)
                have fl28 : FR [96, 106, 107, 108, 109, 110, 111, 112, 113, 114, 115, 116, 117, 118, 119] h12 h104 := by rw [g105]; exact FR_wL _ _ fl28 (by decide)
                have s106 : (h104.1 97 4).toInt = (h79.1 97 4).toInt := by rw [g105, wL_fst]
                have s107 : (h104.1 97 5).toInt = (h79.1 97 5).toInt := by rw [g105, wL_fst]
                have s108 : (h104.1 97 0).toInt = (h79.1 97 0).toInt := by rw [g105, wL_fst]
                have s109 : (h104.1 97 1).toInt = (h79.1 97 1).toInt := by rw [g105, wL_fst]
                have s110 : (h104.1 96 18).toInt = (h79.1 96 18).toInt := by rw [g105, wL_fst]
                have s111 : (h104.1 96 19).toInt = (h79.1 96 19).toInt := by rw [g105, wL_fst]
                have hO : h104.2 96 54 = w100 := by rw [g105, wL_is]
                refine R_aload_n (k := 0) rfl rfl rfl ?_
                refine R_dup_r rfl ?_
                refine R_getf_l (j := 55) rfl ft_9_483 sh_96 rfl ?_
                refine N_eqL (fun w112 e113 => ?_)
                have q114 : w112.toInt = (h104.2 96 55).toInt := by rw [e113]
                refine R_aload_n (k := 0) rfl rfl rfl ?_
                refine R_getf_r (j := 28) rfl ft_9_64 sh_96 rfl ?_
                refine R_iload_n (k := 1) rfl rfl rfl ?_
                refine R_iald rfl sh_113 ⟨by omega, by omega⟩ ?_
                refine N_eq (fun x115 e116 => ?_)
                refine R_iload_n (k := 2) rfl rfl rfl ?_
                refine N_icmp_lt (a := x115.toInt) (b := a1.toInt) 149 rfl rfl rfl rfl (fun c117 => ?_) (fun c117 => ?_)
                · refine R_lconst 0 rfl rfl ?_
                  refine R_ladd rfl ?_
                  refine N_eqL (fun w118 e119 => ?_)
                  refine K_putl (j := 55) rfl ft_9_483 sh_96 rfl hI fr (by decide) (fun h120 g121 hI fr => ?_)
                  have fl54 : FR [96, 106, 107, 108, 109, 110, 111, 112, 113, 114, 115, 116, 117, 118, 119] h27 h120 := by rw [g121]; exact FR_wL _ _ fl54 (by decide)
                  have fl28 : FR [96, 106, 107, 108, 109, 110, 111, 112, 113, 114, 115, 116, 117, 118, 119] h12 h120 := by rw [g121]; exact FR_wL _ _ fl28 (by decide)
                  have s122 : (h120.1 97 4).toInt = (h104.1 97 4).toInt := by rw [g121, wL_fst]
                  have s123 : (h120.1 97 5).toInt = (h104.1 97 5).toInt := by rw [g121, wL_fst]
                  have s124 : (h120.1 97 0).toInt = (h104.1 97 0).toInt := by rw [g121, wL_fst]
                  have s125 : (h120.1 97 1).toInt = (h104.1 97 1).toInt := by rw [g121, wL_fst]
                  have s126 : (h120.1 96 18).toInt = (h104.1 96 18).toInt := by rw [g121, wL_fst]
                  have s127 : (h120.1 96 19).toInt = (h104.1 96 19).toInt := by rw [g121, wL_fst]
                  have hO : h120.2 96 54 = w100 := by rw [g121, wL_at (by decide)]; exact hO
                  refine R_aload_n (k := 0) rfl rfl rfl ?_
                  refine R_dup_r rfl ?_
                  refine R_getf_l (j := 56) rfl ft_9_486 sh_96 rfl ?_
                  refine N_eqL (fun w128 e129 => ?_)
                  have q130 : w128.toInt = (h120.2 96 56).toInt := by rw [e129]
                  refine R_lload (k := 4) rfl rfl ?_
                  refine R_aload_n (k := 0) rfl rfl rfl ?_
                  refine R_getf_r (j := 29) rfl ft_9_67 sh_96 rfl ?_
                  refine R_iload_n (k := 1) rfl rfl rfl ?_
                  refine R_iald rfl sh_114 ⟨by omega, by omega⟩ ?_
                  refine N_eq (fun x131 e132 => ?_)
                  refine N_i2l rfl (fun w133 q134 => ?_)
                  refine R_lmul rfl ?_
                  refine N_eqL (fun w135 e136 => ?_)
                  refine R_ladd rfl ?_
                  refine N_eqL (fun w137 e138 => ?_)
                  refine K_putl (j := 56) rfl ft_9_486 sh_96 rfl hI fr (by decide) (fun h139 g140 hI fr => ?_)
                  have fl54 : FR [96, 106, 107, 108, 109, 110, 111, 112, 113, 114, 115, 116, 117, 118, 119] h27 h139 := by rw [g140]; exact FR_wL _ _ fl54 (by decide)
                  have fl28 : FR [96, 106, 107, 108, 109, 110, 111, 112, 113, 114, 115, 116, 117, 118, 119] h12 h139 := by rw [g140]; exact FR_wL _ _ fl28 (by decide)
                  have s141 : (h139.1 97 4).toInt = (h120.1 97 4).toInt := by rw [g140, wL_fst]
                  have s142 : (h139.1 97 5).toInt = (h120.1 97 5).toInt := by rw [g140, wL_fst]
                  have s143 : (h139.1 97 0).toInt = (h120.1 97 0).toInt := by rw [g140, wL_fst]
                  have s144 : (h139.1 97 1).toInt = (h120.1 97 1).toInt := by rw [g140, wL_fst]
                  have s145 : (h139.1 96 18).toInt = (h120.1 96 18).toInt := by rw [g140, wL_fst]
                  have s146 : (h139.1 96 19).toInt = (h120.1 96 19).toInt := by rw [g140, wL_fst]
                  have hO : h139.2 96 54 = w100 := by rw [g140, wL_at (by decide)]; exact hO
                  refine N_iinc (a := x29.toInt) (c := 1) (fun w => [(3, .inl w), (6, .inl x56), (4, .inr (.inl w55)), (0, .inr (.inr (.inl 96))), (1, .inl a0), (2, .inl a1)]) rfl rfl (fun _ => rfl) (by decide) rfl (by decide) (by omega) (fun x147 q148 => ?_)
                  refine R_goto 21 rfl rfl ?_
                  have qo149 : (h139.2 96 54).toInt = (w100).toInt := by rw [hO]
                  exact RUN_weak (psub_cons rfl (psub_cons rfl (psub_cons rfl (psub_cons rfl (psub_nil _))))) (ih30 h139 x147 hI fr fl28 (by omega) (by omega) (by omega) (by omega) (by omega) (I3_B (by omega)) (trivial) (by omega))
                · refine R_lload (k := 4) rfl rfl ?_
                  refine R_goto 150 rfl rfl ?_
                  refine R_ladd rfl ?_
                  refine N_eqL (fun w150 e151 => ?_)
                  refine K_putl (j := 55) rfl ft_9_483 sh_96 rfl hI fr (by decide) (fun h152 g153 hI fr => ?_)
                  have fl54 : FR [96, 106, 107, 108, 109, 110, 111, 112, 113, 114, 115, 116, 117, 118, 119] h27 h152 := by rw [g153]; exact FR_wL _ _ fl54 (by decide)
                  have fl28 : FR [96, 106, 107, 108, 109, 110, 111, 112, 113, 114, 115, 116, 117, 118, 119] h12 h152 := by rw [g153]; exact FR_wL _ _ fl28 (by decide)
                  have s154 : (h152.1 97 4).toInt = (h104.1 97 4).toInt := by rw [g153, wL_fst]
                  have s155 : (h152.1 97 5).toInt = (h104.1 97 5).toInt := by rw [g153, wL_fst]
                  have s156 : (h152.1 97 0).toInt = (h104.1 97 0).toInt := by rw [g153, wL_fst]
                  have s157 : (h152.1 97 1).toInt = (h104.1 97 1).toInt := by rw [g153, wL_fst]
                  have s158 : (h152.1 96 18).toInt = (h104.1 96 18).toInt := by rw [g153, wL_fst]
                  have s159 : (h152.1 96 19).toInt = (h104.1 96 19).toInt := by rw [g153, wL_fst]
                  have hO : h152.2 96 54 = w100 := by rw [g153, wL_at (by decide)]; exact hO
                  refine R_aload_n (k := 0) rfl rfl rfl ?_
                  refine R_dup_r rfl ?_
                  refine R_getf_l (j := 56) rfl ft_9_486 sh_96 rfl ?_
                  refine N_eqL (fun w160 e161 => ?_)
                  have q162 : w160.toInt = (h152.2 96 56).toInt := by rw [e161]
                  refine R_lload (k := 4) rfl rfl ?_
                  refine R_aload_n (k := 0) rfl rfl rfl ?_
                  refine R_getf_r (j := 29) rfl ft_9_67 sh_96 rfl ?_
                  refine R_iload_n (k := 1) rfl rfl rfl ?_
                  refine R_iald rfl sh_114 ⟨by omega, by omega⟩ ?_
                  refine N_eq (fun x163 e164 => ?_)
                  refine N_i2l rfl (fun w165 q166 => ?_)
                  refine R_lmul rfl ?_
                  refine N_eqL (fun w167 e168 => ?_)
                  refine R_ladd rfl ?_
                  refine N_eqL (fun w169 e170 => ?_)
                  refine K_putl (j := 56) rfl ft_9_486 sh_96 rfl hI fr (by decide) (fun h171 g172 hI fr => ?_)
                  have fl54 : FR [96, 106, 107, 108, 109, 110, 111, 112, 113, 114, 115, 116, 117, 118, 119] h27 h171 := by rw [g172]; exact FR_wL _ _ fl54 (by decide)
                  have fl28 : FR [96, 106, 107, 108, 109, 110, 111, 112, 113, 114, 115, 116, 117, 118, 119] h12 h171 := by rw [g172]; exact FR_wL _ _ fl28 (by decide)
                  have s173 : (h171.1 97 4).toInt = (h152.1 97 4).toInt := by rw [g172, wL_fst]
                  have s174 : (h171.1 97 5).toInt = (h152.1 97 5).toInt := by rw [g172, wL_fst]
                  have s175 : (h171.1 97 0).toInt = (h152.1 97 0).toInt := by rw [g172, wL_fst]
                  have s176 : (h171.1 97 1).toInt = (h152.1 97 1).toInt := by rw [g172, wL_fst]
                  have s177 : (h171.1 96 18).toInt = (h152.1 96 18).toInt := by rw [g172, wL_fst]
                  have s178 : (h171.1 96 19).toInt = (h152.1 96 19).toInt := by rw [g172, wL_fst]
                  have hO : h171.2 96 54 = w100 := by rw [g172, wL_at (by decide)]; exact hO
                  refine N_iinc (a := x29.toInt) (c := 1) (fun w => [(3, .inl w), (6, .inl x56), (4, .inr (.inl w55)), (0, .inr (.inr (.inl 96))), (1, .inl a0), (2, .inl a1)]) rfl rfl (fun _ => rfl) (by decide) rfl (by decide) (by omega) (fun x179 q180 => ?_)
                  refine R_goto 21 rfl rfl ?_
                  have qo181 : (h171.2 96 54).toInt = (w100).toInt := by rw [hO]
                  exact RUN_weak (psub_cons rfl (psub_cons rfl (psub_cons rfl (psub_cons rfl (psub_nil _))))) (ih30 h171 x179 hI fr fl28 (by omega) (by omega) (by omega) (by omega) (by omega) (I3_B (by omega)) (trivial) (by omega))
              · refine R_goto 173 rfl rfl ?_
                refine N_iinc (a := x29.toInt) (c := 1) (fun w => [(3, .inl w), (6, .inl x56), (4, .inr (.inl w55)), (0, .inr (.inr (.inl 96))), (1, .inl a0), (2, .inl a1)]) rfl rfl (fun _ => rfl) (by decide) rfl (by decide) (by omega) (fun x182 q183 => ?_)
                refine R_goto 21 rfl rfl ?_
                have qo184 : (h53.2 96 54).toInt = (h27.2 96 54).toInt := by rw [hO]
                exact RUN_weak (psub_cons rfl (psub_cons rfl (psub_cons rfl (psub_cons rfl (psub_nil _))))) (ih30 h53 x182 hI fr fl28 (by omega) (by omega) (by omega) (by omega) (by omega) (I3_A m67 (by omega) ql49 (by omega) (by omega)) (trivial) (by omega))
            · refine R_aload_n (k := 0) rfl rfl rfl ?_
              refine R_getf_r (j := 21) rfl ft_9_43 sh_96 rfl ?_
              refine R_iload (k := 6) rfl rfl ?_
              refine R_iload_n (k := 3) rfl rfl rfl ?_
              refine R_iload (k := 6) rfl rfl ?_
              refine R_callS (As := [.inl x29, .inl x56]) (rest := [.inl x56, .inr (.inr (.inl 106))]) rfl mt_9_i292 (by decide) pp_X9_bit (by decide) rfl rfl (Nat.le_of_ble_eq_true rfl) (Nat.le_of_ble_eq_true rfl) ((g_X9_bit h53 hI x29 x56 (by omega)).mono (fun r185 h186 p187 => ?_))
              obtain ⟨rfl, x190, rfl, q191, zq188, zq189, -⟩ := p187
              show RUN d_X9_laySlips 52 [(6, .inl x56), (4, .inr (.inl w55)), (3, .inl x29), (0, .inr (.inr (.inl 96))), (1, .inl a0), (2, .inl a1)] [.inl x190, .inl x56, .inr (.inr (.inl 106))] h53 _
              refine R_iconst 1 rfl rfl ?_
              refine N_icmp_ne (a := x190.toInt) (b := 1) 60 rfl rfl rfl (by decide) (fun c192 => ?_) (fun c192 => ?_)
              · refine R_iconst 0 rfl rfl ?_
                refine K_zast (a := x56.toInt) rfl sh_106 rfl ⟨by omega, by omega⟩ hI (by decide) rfl fr (by decide) (fun h193 g194 hI fr => ?_)
                have fl54 : FR [96, 106, 107, 108, 109, 110, 111, 112, 113, 114, 115, 116, 117, 118, 119] h27 h193 := by rw [g194]; exact FR_wI _ _ fl54 (by decide)
                have fl28 : FR [96, 106, 107, 108, 109, 110, 111, 112, 113, 114, 115, 116, 117, 118, 119] h12 h193 := by rw [g194]; exact FR_wI _ _ fl28 (by decide)
                have s195 : (h193.1 97 4).toInt = (h53.1 97 4).toInt := by rw [g194, wI_ne _ _ _ (by decide)]
                have s196 : (h193.1 97 5).toInt = (h53.1 97 5).toInt := by rw [g194, wI_ne _ _ _ (by decide)]
                have s197 : (h193.1 97 0).toInt = (h53.1 97 0).toInt := by rw [g194, wI_ne _ _ _ (by decide)]
                have s198 : (h193.1 97 1).toInt = (h53.1 97 1).toInt := by rw [g194, wI_ne _ _ _ (by decide)]
                have s199 : (h193.1 96 18).toInt = (h53.1 96 18).toInt := by rw [g194, wI_ne _ _ _ (by decide)]
                have s200 : (h193.1 96 19).toInt = (h53.1 96 19).toInt := by rw [g194, wI_ne _ _ _ (by decide)]
                have hO : h193.2 96 54 = h27.2 96 54 := by rw [g194]; exact hO
                refine R_lload (k := 4) rfl rfl ?_
                refine R_aload_n (k := 0) rfl rfl rfl ?_
                refine R_getf_r (j := 21) rfl ft_9_43 sh_96 rfl ?_
                refine R_iload (k := 6) rfl rfl ?_
                refine R_zald rfl sh_106 ⟨by omega, by omega⟩ ?_
                refine N_eq (fun x201 e202 => ?_)
                have qz203 : x201.toInt = 0 := by rw [e202, g194, wI_is]; decide
                refine N_if_eq (a := x201.toInt) 84 rfl rfl rfl (fun c204 => ?_) (fun c204 => ?_)
                · refine R_bipush 10 rfl rfl ?_
                  refine R_aload_n (k := 0) rfl rfl rfl ?_
                  refine R_getf_r (j := 1) rfl ft_9_9 sh_96 rfl ?_
                  refine R_iconst 4 rfl rfl ?_
                  refine R_iald rfl sh_97 (by decide) ?_
                  show RUN d_X9_laySlips 92 [(6, .inl x56), (4, .inr (.inl w55)), (3, .inl x29), (0, .inr (.inr (.inl 96))), (1, .inl a0), (2, .inl a1)] [.inl (h193.1 97 4), .inl 10, .inr (.inl w55)] h193 _
                  refine R_isub rfl ?_
                  refine N_eq (fun x205 e206 => ?_)
                  have q207 : x205.toInt = 10 - (h193.1 97 4).toInt := by rw [e206]; exact i_sub (by decide) rfl (by omega)
                  refine N_i2l rfl (fun w208 q209 => ?_)
                  refine R_lmul rfl ?_
                  refine N_eqL (fun w210 e211 => ?_)
                  obtain ⟨mv1, mv2, mv3⟩ := mulv (n := x56.toInt.toNat) e211 (by omega) m64 (by omega) (by omega)
                  refine R_lstore (k := 4) [(4, .inr (.inl w210)), (6, .inl x56), (3, .inl x29), (0, .inr (.inr (.inl 96))), (1, .inl a0), (2, .inl a1)] rfl rfl (by decide) ?_
                  refine N_iinc (a := x56.toInt) (c := 1) (fun w => [(6, .inl w), (4, .inr (.inl w210)), (3, .inl x29), (0, .inr (.inr (.inl 96))), (1, .inl a0), (2, .inl a1)]) rfl rfl (fun _ => rfl) (by decide) rfl (by decide) (by omega) (fun x212 q213 => ?_)
                  refine R_goto 34 rfl rfl ?_
                  exact RUN_weak (psub_cons rfl (psub_cons rfl (psub_cons rfl (psub_cons rfl (psub_cons rfl (psub_cons rfl (psub_nil _))))))) (ih57 h193 w210 x212 hI fr fl54 (by omega) (by omega) (by omega) (by rw [show x212.toInt.toNat = x56.toInt.toNat + 1 by omega]; exact mv2) (by omega) (by omega) (I4_n (k := x56.toInt) zq189 (by omega) (by omega) (by omega)) (hO) (by omega))
                · refine R_aload_n (k := 0) rfl rfl rfl ?_
                  refine R_getf_r (j := 1) rfl ft_9_9 sh_96 rfl ?_
                  refine R_iconst 4 rfl rfl ?_
                  refine R_iald rfl sh_97 (by decide) ?_
                  show RUN d_X9_laySlips 80 [(6, .inl x56), (4, .inr (.inl w55)), (3, .inl x29), (0, .inr (.inr (.inl 96))), (1, .inl a0), (2, .inl a1)] [.inl (h193.1 97 4), .inr (.inl w55)] h193 _
                  refine N_i2l rfl (fun w214 q215 => ?_)
                  refine R_goto 94 rfl rfl ?_
                  refine R_lmul rfl ?_
                  refine N_eqL (fun w216 e217 => ?_)
                  obtain ⟨mv1, mv2, mv3⟩ := mulv (n := x56.toInt.toNat) e217 (by omega) m64 (by omega) (by omega)
                  refine R_lstore (k := 4) [(4, .inr (.inl w216)), (6, .inl x56), (3, .inl x29), (0, .inr (.inr (.inl 96))), (1, .inl a0), (2, .inl a1)] rfl rfl (by decide) ?_
                  refine N_iinc (a := x56.toInt) (c := 1) (fun w => [(6, .inl w), (4, .inr (.inl w216)), (3, .inl x29), (0, .inr (.inr (.inl 96))), (1, .inl a0), (2, .inl a1)]) rfl rfl (fun _ => rfl) (by decide) rfl (by decide) (by omega) (fun x218 q219 => ?_)
                  refine R_goto 34 rfl rfl ?_
                  exact RUN_weak (psub_cons rfl (psub_cons rfl (psub_cons rfl (psub_cons rfl (psub_cons rfl (psub_cons rfl (psub_nil _))))))) (ih57 h193 w216 x218 hI fr fl54 (by omega) (by omega) (by omega) (by rw [show x218.toInt.toNat = x56.toInt.toNat + 1 by omega]; exact mv2) (by omega) (by omega) (I4_n (k := x56.toInt) zq189 (by omega) (by omega) (by omega)) (hO) (by omega))
              · refine R_iconst 1 rfl rfl ?_
                refine R_goto 61 rfl rfl ?_
                refine K_zast (a := x56.toInt) rfl sh_106 rfl ⟨by omega, by omega⟩ hI (by decide) rfl fr (by decide) (fun h220 g221 hI fr => ?_)
                have fl54 : FR [96, 106, 107, 108, 109, 110, 111, 112, 113, 114, 115, 116, 117, 118, 119] h27 h220 := by rw [g221]; exact FR_wI _ _ fl54 (by decide)
                have fl28 : FR [96, 106, 107, 108, 109, 110, 111, 112, 113, 114, 115, 116, 117, 118, 119] h12 h220 := by rw [g221]; exact FR_wI _ _ fl28 (by decide)
                have s222 : (h220.1 97 4).toInt = (h53.1 97 4).toInt := by rw [g221, wI_ne _ _ _ (by decide)]
                have s223 : (h220.1 97 5).toInt = (h53.1 97 5).toInt := by rw [g221, wI_ne _ _ _ (by decide)]
                have s224 : (h220.1 97 0).toInt = (h53.1 97 0).toInt := by rw [g221, wI_ne _ _ _ (by decide)]
                have s225 : (h220.1 97 1).toInt = (h53.1 97 1).toInt := by rw [g221, wI_ne _ _ _ (by decide)]
                have s226 : (h220.1 96 18).toInt = (h53.1 96 18).toInt := by rw [g221, wI_ne _ _ _ (by decide)]
                have s227 : (h220.1 96 19).toInt = (h53.1 96 19).toInt := by rw [g221, wI_ne _ _ _ (by decide)]
                have hO : h220.2 96 54 = h27.2 96 54 := by rw [g221]; exact hO
                refine R_lload (k := 4) rfl rfl ?_
                refine R_aload_n (k := 0) rfl rfl rfl ?_
                refine R_getf_r (j := 21) rfl ft_9_43 sh_96 rfl ?_
                refine R_iload (k := 6) rfl rfl ?_
                refine R_zald rfl sh_106 ⟨by omega, by omega⟩ ?_
                refine N_eq (fun x228 e229 => ?_)
                have qz230 : x228.toInt = 1 := by rw [e229, g221, wI_is]; decide
                refine N_if_eq (a := x228.toInt) 84 rfl rfl rfl (fun c231 => ?_) (fun c231 => ?_)
                · refine R_bipush 10 rfl rfl ?_
                  refine R_aload_n (k := 0) rfl rfl rfl ?_
                  refine R_getf_r (j := 1) rfl ft_9_9 sh_96 rfl ?_
                  refine R_iconst 4 rfl rfl ?_
                  refine R_iald rfl sh_97 (by decide) ?_
                  show RUN d_X9_laySlips 92 [(6, .inl x56), (4, .inr (.inl w55)), (3, .inl x29), (0, .inr (.inr (.inl 96))), (1, .inl a0), (2, .inl a1)] [.inl (h220.1 97 4), .inl 10, .inr (.inl w55)] h220 _
                  refine R_isub rfl ?_
                  refine N_eq (fun x232 e233 => ?_)
                  have q234 : x232.toInt = 10 - (h220.1 97 4).toInt := by rw [e233]; exact i_sub (by decide) rfl (by omega)
                  refine N_i2l rfl (fun w235 q236 => ?_)
                  refine R_lmul rfl ?_
                  refine N_eqL (fun w237 e238 => ?_)
                  obtain ⟨mv1, mv2, mv3⟩ := mulv (n := x56.toInt.toNat) e238 (by omega) m64 (by omega) (by omega)
                  refine R_lstore (k := 4) [(4, .inr (.inl w237)), (6, .inl x56), (3, .inl x29), (0, .inr (.inr (.inl 96))), (1, .inl a0), (2, .inl a1)] rfl rfl (by decide) ?_
                  refine N_iinc (a := x56.toInt) (c := 1) (fun w => [(6, .inl w), (4, .inr (.inl w237)), (3, .inl x29), (0, .inr (.inr (.inl 96))), (1, .inl a0), (2, .inl a1)]) rfl rfl (fun _ => rfl) (by decide) rfl (by decide) (by omega) (fun x239 q240 => ?_)
                  refine R_goto 34 rfl rfl ?_
                  exact RUN_weak (psub_cons rfl (psub_cons rfl (psub_cons rfl (psub_cons rfl (psub_cons rfl (psub_cons rfl (psub_nil _))))))) (ih57 h220 w237 x239 hI fr fl54 (by omega) (by omega) (by omega) (by rw [show x239.toInt.toNat = x56.toInt.toNat + 1 by omega]; exact mv2) (by omega) (by omega) (I4_1 m67 mv3 (by omega)) (hO) (by omega))
                · refine R_aload_n (k := 0) rfl rfl rfl ?_
                  refine R_getf_r (j := 1) rfl ft_9_9 sh_96 rfl ?_
                  refine R_iconst 4 rfl rfl ?_
                  refine R_iald rfl sh_97 (by decide) ?_
                  show RUN d_X9_laySlips 80 [(6, .inl x56), (4, .inr (.inl w55)), (3, .inl x29), (0, .inr (.inr (.inl 96))), (1, .inl a0), (2, .inl a1)] [.inl (h220.1 97 4), .inr (.inl w55)] h220 _
                  refine N_i2l rfl (fun w241 q242 => ?_)
                  refine R_goto 94 rfl rfl ?_
                  refine R_lmul rfl ?_
                  refine N_eqL (fun w243 e244 => ?_)
                  obtain ⟨mv1, mv2, mv3⟩ := mulv (n := x56.toInt.toNat) e244 (by omega) m64 (by omega) (by omega)
                  refine R_lstore (k := 4) [(4, .inr (.inl w243)), (6, .inl x56), (3, .inl x29), (0, .inr (.inr (.inl 96))), (1, .inl a0), (2, .inl a1)] rfl rfl (by decide) ?_
                  refine N_iinc (a := x56.toInt) (c := 1) (fun w => [(6, .inl w), (4, .inr (.inl w243)), (3, .inl x29), (0, .inr (.inr (.inl 96))), (1, .inl a0), (2, .inl a1)]) rfl rfl (fun _ => rfl) (by decide) rfl (by decide) (by omega) (fun x245 q246 => ?_)
                  refine R_goto 34 rfl rfl ?_
                  exact RUN_weak (psub_cons rfl (psub_cons rfl (psub_cons rfl (psub_cons rfl (psub_cons rfl (psub_cons rfl (psub_nil _))))))) (ih57 h220 w243 x245 hI fr fl54 (by omega) (by omega) (by omega) (by rw [show x245.toInt.toNat = x56.toInt.toNat + 1 by omega]; exact mv2) (by omega) (by omega) (I4_1 m67 mv3 (by omega)) (hO) (by omega))
        have k247 : (1 : Int64).toInt = 1 := by decide
        have k248 : (0 : Int32).toInt = 0 := by decide
        exact lp52 _ h27 (1 : Int64) (0 : Int32) hI fr (FR.rf _ _) (by decide) rfl rfl (by decide) (by omega) (by omega) (I4_0 (by decide)) (hO) (Nat.lt_succ_self _)
  have k249 : (0 : Int32).toInt = 0 := by decide
  have qo250 : (h12.2 96 54).toInt = 0 := by rw [hO]; decide
  exact lp26 _ h12 (0 : Int32) hI fr (FR.rf _ _) (by decide) rfl rfl (by omega) (by omega) (I3_0) (trivial) (Nat.lt_succ_self _)

abbrev qg_J13_bitCount_95d88 (h : PH) (a0 : Int64) : Option PV → PH → Prop := fun r h' => h = h' ∧ ∃ z : Int32, r = some (.inl z) ∧ (((0 ≤ z.toInt ∧ z.toInt ≤ 127)) ∧ (0 ≤ a0.toInt ∧ a0.toInt < 1152921504606846976 → z.toInt ≤ 60) ∧ True)
set_option maxHeartbeats 4000000 in
set_option maxRecDepth 100000 in
theorem g_J13_bitCount_95d88 (h : PH) (hI : INV h) (a0 : Int64) : CALL d_J13_bitCount_95d88 [.inr (.inl a0)] h (qg_J13_bitCount_95d88 h a0) := by
  show RUN d_J13_bitCount_95d88 0 [(0, .inr (.inl a0))] [] h _
  refine R_lload_n (k := 0) rfl rfl rfl ?_
  refine R_lload_n (k := 0) rfl rfl rfl ?_
  refine R_iconst 1 rfl rfl ?_
  refine R_lushr rfl ?_
  refine N_eqL (fun w1 e2 => ?_)
  refine R_ldc2 (x := 6148914691236517205) rfl kt_11_314 ?_
  refine R_land rfl ?_
  refine N_eqL (fun w3 e4 => ?_)
  refine R_lsub rfl ?_
  refine N_eqL (fun w5 e6 => ?_)
  refine R_lstore_n (k := 0) rfl [(0, .inr (.inl w5))] rfl rfl (by decide) ?_
  refine R_lload_n (k := 0) rfl rfl rfl ?_
  refine R_ldc2 (x := 3689348814741910323) rfl kt_11_316 ?_
  refine R_land rfl ?_
  refine N_eqL (fun w7 e8 => ?_)
  refine R_lload_n (k := 0) rfl rfl rfl ?_
  refine R_iconst 2 rfl rfl ?_
  refine R_lushr rfl ?_
  refine N_eqL (fun w9 e10 => ?_)
  refine R_ldc2 (x := 3689348814741910323) rfl kt_11_316 ?_
  refine R_land rfl ?_
  refine N_eqL (fun w11 e12 => ?_)
  refine R_ladd rfl ?_
  refine N_eqL (fun w13 e14 => ?_)
  refine R_lstore_n (k := 0) rfl [(0, .inr (.inl w13))] rfl rfl (by decide) ?_
  refine R_lload_n (k := 0) rfl rfl rfl ?_
  refine R_lload_n (k := 0) rfl rfl rfl ?_
  refine R_iconst 4 rfl rfl ?_
  refine R_lushr rfl ?_
  refine N_eqL (fun w15 e16 => ?_)
  refine R_ladd rfl ?_
  refine N_eqL (fun w17 e18 => ?_)
  refine R_ldc2 (x := 1085102592571150095) rfl kt_11_318 ?_
  refine R_land rfl ?_
  refine N_eqL (fun w19 e20 => ?_)
  refine R_lstore_n (k := 0) rfl [(0, .inr (.inl w19))] rfl rfl (by decide) ?_
  refine R_lload_n (k := 0) rfl rfl rfl ?_
  refine R_lload_n (k := 0) rfl rfl rfl ?_
  refine R_bipush 8 rfl rfl ?_
  refine R_lushr rfl ?_
  refine N_eqL (fun w21 e22 => ?_)
  refine R_ladd rfl ?_
  refine N_eqL (fun w23 e24 => ?_)
  refine R_lstore_n (k := 0) rfl [(0, .inr (.inl w23))] rfl rfl (by decide) ?_
  refine R_lload_n (k := 0) rfl rfl rfl ?_
  refine R_lload_n (k := 0) rfl rfl rfl ?_
  refine R_bipush 16 rfl rfl ?_
  refine R_lushr rfl ?_
  refine N_eqL (fun w25 e26 => ?_)
  refine R_ladd rfl ?_
  refine N_eqL (fun w27 e28 => ?_)
  refine R_lstore_n (k := 0) rfl [(0, .inr (.inl w27))] rfl rfl (by decide) ?_
  refine R_lload_n (k := 0) rfl rfl rfl ?_
  refine R_lload_n (k := 0) rfl rfl rfl ?_
  refine R_bipush 32 rfl rfl ?_
  refine R_lushr rfl ?_
  refine N_eqL (fun w29 e30 => ?_)
  refine R_ladd rfl ?_
  refine N_eqL (fun w31 e32 => ?_)
  refine R_lstore_n (k := 0) rfl [(0, .inr (.inl w31))] rfl rfl (by decide) ?_
  refine R_lload_n (k := 0) rfl rfl rfl ?_
  refine R_l2i rfl ?_
  refine N_eq (fun x33 e34 => ?_)
  refine R_bipush 127 rfl rfl ?_
  refine R_iand rfl ?_
  refine N_eq (fun x35 e36 => ?_)
  have q37 : 0 ≤ x35.toInt ∧ x35.toInt ≤ 127 := by rw [e36]; exact i_and (by decide) (by omega)
  exact R_iret rfl rfl rfl ⟨rfl, _, rfl, ⟨by omega, (fun hc => by rw [e36, e34]; exact bc60 (by decide) (by decide) (by decide) (by decide) (by decide) (by decide) e2 e4 e6 e8 e10 e12 e14 e16 e18 e20 e22 e24 e26 e28 e30 e32 hc), trivial⟩⟩

abbrev qg_X3_thrownTo (h : PH) (a0 : Int64) (a1 : Int64) : Option PV → PH → Prop := fun r h' => h = h' ∧ ∃ z : Int32, r = some (.inl z) ∧ (((0 ≤ z.toInt ∧ z.toInt ≤ 127)) ∧ (0 ≤ z.toInt) ∧ (0 ≤ a1.toInt ∧ a1.toInt ≤ 59 → z.toInt ≤ 60) ∧ True)
set_option maxHeartbeats 4000000 in
set_option maxRecDepth 100000 in
theorem g_X3_thrownTo (h : PH) (hI : INV h) (a0 : Int64) (a1 : Int64) : CALL d_X3_thrownTo [.inr (.inl a0), .inr (.inl a1)] h (qg_X3_thrownTo h a0 a1) := by
  show RUN d_X3_thrownTo 0 [(0, .inr (.inl a0)), (2, .inr (.inl a1))] [] h _
  refine R_lload_n (k := 0) rfl rfl rfl ?_
  refine R_ldc2 (x := 2) rfl kt_3_104 ?_
  refine R_lload_n (k := 2) rfl rfl rfl ?_
  refine R_l2i rfl ?_
  refine N_eq (fun x1 e2 => ?_)
  refine R_lshl rfl ?_
  refine N_eqL (fun w3 e4 => ?_)
  refine R_lconst 1 rfl rfl ?_
  refine R_lsub rfl ?_
  refine N_eqL (fun w5 e6 => ?_)
  refine R_land rfl ?_
  refine N_eqL (fun w7 e8 => ?_)
  refine R_callS (As := [.inr (.inl w7)]) (rest := []) rfl mt_3_i78 (by decide) pp_J13_bitCount_95d88 (by decide) rfl rfl (Nat.le_of_ble_eq_true rfl) (Nat.le_of_ble_eq_true rfl) ((g_J13_bitCount_95d88 h hI w7).mono (fun r9 h10 p11 => ?_))
  obtain ⟨rfl, x13, rfl, q14, zq12, -⟩ := p11
  show RUN d_X3_thrownTo 13 [(0, .inr (.inl a0)), (2, .inr (.inl a1))] [.inl x13] h _
  exact R_iret rfl rfl rfl ⟨rfl, _, rfl, ⟨by omega, by omega, (fun hc => zq12 (mask60 hc (by rw [e4, e2]) e6 e8)), trivial⟩⟩
