abbrev qg_X9_goAll (h : PH) (a0 : Int32) : Option PV → PH → Prop := fun r h' => INV h' ∧ FR [96, 107, 108, 109, 110, 111, 112, 113, 114, 115, 116, 117, 118, 119] h h' ∧ ((h'.1 96 19).toInt = (h.1 96 19).toInt ∧ (h'.1 96 18).toInt = (h.1 96 18).toInt ∧ (h'.1 96 20).toInt = (h.1 96 20).toInt ∧ (h'.1 96 46).toInt = (h.1 96 46).toInt ∧ (h'.1 96 44).toInt = (h.1 96 44).toInt ∧ (h'.1 96 47).toInt = (h.1 96 47).toInt ∧ (h'.1 96 48).toInt = (h.1 96 48).toInt ∧ (h'.1 96 51).toInt = (h.1 96 51).toInt ∧ (kyOf h' = zRun (evOf h) (a0.toInt + 1).toNat) ∧ (evOf h' = evOf h) ∧ (0 ≤ a0.toInt → h'.1 114 a0.toNatClampNeg = (zRun (evOf h) (a0.toInt + 1).toNat).2.2.2) ∧ True) ∧ r = none
set_option maxHeartbeats 4000000 in
set_option maxRecDepth 100000 in
theorem g_X9_goAll (h : PH) (hI : INV h) (a0 : Int32) (h0a : (-1) ≤ a0.toInt ∧ a0.toInt ≤ 59) : CALL d_X9_goAll [.inr (.inr (.inl 96)), .inl a0] h (qg_X9_goAll h a0) := by
  show RUN d_X9_goAll 0 [(0, .inr (.inr (.inl 96))), (1, .inl a0)] [] h _
  have fr : FR [96, 107, 108, 109, 110, 111, 112, 113, 114, 115, 116, 117, 118, 119] h h := FR.rf _ _
  have hK : kyOf h = kyOf h := rfl
  have hE : evOf h = evOf h := rfl
  have b1 : (0 : Int) ≤ (h.1 96 18).toInt ∧ (h.1 96 18).toInt ≤ 6 := hI.1 96 18
  have b2 : (h.1 96 18).toInt = ((evOf h).2.2.2.2.1).toInt := congrArg (fun q : EV => (q.2.2.2.2.1).toInt) hE
  have b3 : (0 : Int) ≤ (h.1 96 51).toInt ∧ (h.1 96 51).toInt ≤ 720 := hI.1 96 51
  refine R_aload_n (k := 0) rfl rfl rfl ?_
  refine R_callV (v := .inr (.inr (.inl 96))) (As := []) (rest := []) rfl mt_9_i282 pp_X9_startLine (by decide) rfl rfl rfl (Nat.le_of_ble_eq_true rfl) (Nat.le_of_ble_eq_true rfl) ((g_X9_startLine h hI).mono (fun r4 h5 p6 => ?_))
  obtain ⟨hJ, fj, ⟨kp7, kp8, kp9, kp10, kp11, kp12, kp13, kp14, kp15, xq16, xq17, -⟩, rfl⟩ := p6
  have f18 := fj
  have fr := fr.trans fj (by decide)
  have hI := hJ
  have hK : kyOf h5 = zStart (eBuck (evOf h)) := by rw [xq16, hE]
  have hE : evOf h5 = evOf h := xq17.trans hE
  show RUN d_X9_goAll 4 [(0, .inr (.inr (.inl 96))), (1, .inl a0)] [] h5 _
  refine R_iconst 0 rfl rfl ?_
  refine R_istore_n (k := 2) rfl [(2, .inl 0), (0, .inr (.inr (.inl 96))), (1, .inl a0)] rfl rfl (by decide) ?_
  have lp20 : ∀ (n19 : Nat) (h21 : PH) (x23 : Int32), INV h21 → FR [96, 107, 108, 109, 110, 111, 112, 113, 114, 115, 116, 117, 118, 119] h h21 → FR [96, 107, 108, 109, 110, 111, 112, 113, 114, 115, 116, 117, 118, 119] h5 h21 → 0 ≤ x23.toInt ∧ x23.toInt ≤ 60 → (h21.1 96 19).toInt = (h5.1 96 19).toInt → (h21.1 96 18).toInt = (h5.1 96 18).toInt → (h21.1 96 20).toInt = (h5.1 96 20).toInt → (h21.1 96 46).toInt = (h5.1 96 46).toInt → (h21.1 96 44).toInt = (h5.1 96 44).toInt → (h21.1 96 47).toInt = (h5.1 96 47).toInt → (h21.1 96 48).toInt = (h5.1 96 48).toInt → (h21.1 96 51).toInt = (h5.1 96 51).toInt → True → True → x23.toInt ≤ a0.toInt + 1 → (kyOf h21 = zRun (evOf h) x23.toNatClampNeg) → (0 < x23.toInt → h21.1 114 (x23.toInt - 1).toNat = (kyOf h21).2.2.2) → (evOf h21 = evOf h) → (60 - x23.toInt).toNat < n19 → RUN d_X9_goAll 6 [(2, .inl x23), (0, .inr (.inr (.inl 96))), (1, .inl a0)] [] h21 (qg_X9_goAll h a0) := by
    intro n19
    induction n19 with
    | zero => intro h21 x23 m25 m26 m27 m28 m29 m30 m31 m32 m33 m34 m35 m36 m37 m38 m39 m40 m41 m42 hz; exact absurd hz (Nat.not_lt_zero _)
    | succ n19 ih24 =>
      intro h21 x23 hI fr fl22 m28 m29 m30 m31 m32 m33 m34 m35 m36 m37 m38 m39 m40 m41 m42 hz
      have hE := m42
      have hK : kyOf h21 = kyOf h21 := rfl
      refine R_iload_n (k := 2) rfl rfl rfl ?_
      refine R_iload_n (k := 1) rfl rfl rfl ?_
      refine N_icmp_gt (a := x23.toInt) (b := a0.toInt) 205 rfl rfl rfl rfl (fun c43 => ?_) (fun c43 => ?_)
      · have hF : kyOf h21 = zRun (evOf h) (a0.toInt + 1).toNat := m40.trans (by rw [tn2 (x := x23) (a := a0.toInt + 1) (by omega) (by omega)])
        have hW : 0 ≤ a0.toInt → h21.1 114 a0.toNatClampNeg = (zRun (evOf h) (a0.toInt + 1).toNat).2.2.2 := fun h0 => by rw [tn2 (x := a0) (a := x23.toInt - 1) (by omega) (by omega), m41 (by omega), hF]
        exact R_vret rfl rfl ⟨hI, fr, ⟨by omega, by omega, by omega, by omega, by omega, by omega, by omega, by omega, hF, hE, hW, trivial⟩, rfl⟩
      · refine R_aload_n (k := 0) rfl rfl rfl ?_
        refine R_callV (v := .inr (.inr (.inl 96))) (As := []) (rest := []) rfl mt_9_i285 pp_X9_readyNow (by decide) rfl rfl rfl (Nat.le_of_ble_eq_true rfl) (Nat.le_of_ble_eq_true rfl) ((k_X9_readyNow h21 hI).mono (fun r44 h45 p46 => ?_))
        obtain ⟨rfl, x47, rfl, q48⟩ := p46
        show RUN d_X9_goAll 15 [(2, .inl x23), (0, .inr (.inr (.inl 96))), (1, .inl a0)] [.inl x47] h21 _
        refine R_istore_n (k := 3) rfl [(3, .inl x47), (2, .inl x23), (0, .inr (.inr (.inl 96))), (1, .inl a0)] rfl rfl (by decide) ?_
        refine R_aload_n (k := 0) rfl rfl rfl ?_
        refine R_iload_n (k := 2) rfl rfl rfl ?_
        refine R_aload_n (k := 0) rfl rfl rfl ?_
        refine R_getf_r (j := 21) rfl ft_9_43 sh_96 rfl ?_
        refine R_iload_n (k := 2) rfl rfl rfl ?_
        refine R_zald rfl sh_106 ⟨by omega, by omega⟩ ?_
        refine N_eq (fun x49 e50 => ?_)
        have e51 : x49 = (evOf h).2.2.2.2.2.2.2 x23.toNatClampNeg := by rw [e50]; exact congrFun (congrArg (fun q : EV => q.2.2.2.2.2.2.2) hE) _
        refine R_callV (v := .inr (.inr (.inl 96))) (As := [.inl x23, .inl x49]) (rest := []) rfl mt_9_i288 pp_X9_goSecond (by decide) rfl rfl rfl (Nat.le_of_ble_eq_true rfl) (Nat.le_of_ble_eq_true rfl) ((g_X9_goSecond h21 hI x23 x49 (by omega)).mono (fun r52 h53 p54 => ?_))
        obtain ⟨hJ, fj, ⟨kp55, kp56, kp57, kp58, kp59, kp60, kp61, kp62, kp63, kp64, xq65, xq66, -⟩, rfl⟩ := p54
        have f67 := fj
        have fr := fr.trans fj (by decide)
        have hI := hJ
        have fl22 : FR [96, 107, 108, 109, 110, 111, 112, 113, 114, 115, 116, 117, 118, 119] h5 h53 := fl22.trans fj (by decide)
        have hK : kyOf h53 = zSecond (evOf h) x23 x49 (kyOf h21) := by rw [xq65, hE, hK]
        have hE : evOf h53 = evOf h := xq66.trans hE
        show RUN d_X9_goAll 27 [(3, .inl x47), (2, .inl x23), (0, .inr (.inr (.inl 96))), (1, .inl a0)] [] h53 _
        refine R_aload_n (k := 0) rfl rfl rfl ?_
        refine R_getf_r (j := 31) rfl ft_9_73 sh_96 rfl ?_
        refine R_iload_n (k := 2) rfl rfl rfl ?_
        refine R_iconst 0 rfl rfl ?_
        refine K_iast (a := x23.toInt) (lo := (-2147483648)) (hi' := 2147483647) rfl sh_116 rfl ⟨by omega, by omega⟩ hI (by decide) rfl (by decide) fr (by decide) (fun h68 g69 hI fr => ?_)
        have fl22 : FR [96, 107, 108, 109, 110, 111, 112, 113, 114, 115, 116, 117, 118, 119] h5 h68 := by rw [g69]; exact FR_wI _ _ fl22 (by decide)
        have s70 : (h68.1 96 19).toInt = (h53.1 96 19).toInt := by rw [g69, wI_ne _ _ _ (by decide)]
        have s71 : (h68.1 96 18).toInt = (h53.1 96 18).toInt := by rw [g69, wI_ne _ _ _ (by decide)]
        have s72 : (h68.1 96 20).toInt = (h53.1 96 20).toInt := by rw [g69, wI_ne _ _ _ (by decide)]
        have s73 : (h68.1 96 46).toInt = (h53.1 96 46).toInt := by rw [g69, wI_ne _ _ _ (by decide)]
        have s74 : (h68.1 96 44).toInt = (h53.1 96 44).toInt := by rw [g69, wI_ne _ _ _ (by decide)]
        have s75 : (h68.1 96 47).toInt = (h53.1 96 47).toInt := by rw [g69, wI_ne _ _ _ (by decide)]
        have s76 : (h68.1 96 48).toInt = (h53.1 96 48).toInt := by rw [g69, wI_ne _ _ _ (by decide)]
        have s77 : (h68.1 96 51).toInt = (h53.1 96 51).toInt := by rw [g69, wI_ne _ _ _ (by decide)]
        have hK : kyOf h68 = zSecond (evOf h) x23 x49 (kyOf h21) := by rw [g69, ky_o (by decide), hK]
        have hE : evOf h68 = evOf h := by rw [g69, ev_o (by decide), hE]
        refine R_iconst 0 rfl rfl ?_
        refine R_istore (k := 4) [(4, .inl 0), (3, .inl x47), (2, .inl x23), (0, .inr (.inr (.inl 96))), (1, .inl a0)] rfl rfl (by decide) ?_
        have lp79 : ∀ (n78 : Nat) (h80 : PH) (x82 : Int32), INV h80 → FR [96, 107, 108, 109, 110, 111, 112, 113, 114, 115, 116, 117, 118, 119] h h80 → FR [110, 111, 112, 113, 114, 115, 116, 119] h68 h80 → 0 ≤ x82.toInt ∧ x82.toInt ≤ 6 → (kyOf h80 = zSecond (evOf h) x23 x49 (kyOf h21)) → (evOf h80 = evOf h) → (6 - x82.toInt).toNat < n78 → RUN d_X9_goAll 37 [(4, .inl x82), (3, .inl x47), (2, .inl x23), (0, .inr (.inr (.inl 96))), (1, .inl a0)] [] h80 (qg_X9_goAll h a0) := by
          intro n78
          induction n78 with
          | zero => intro h80 x82 m84 m85 m86 m87 m88 m89 hz; exact absurd hz (Nat.not_lt_zero _)
          | succ n78 ih83 =>
            intro h80 x82 hI fr fl81 m87 m88 m89 hz
            have s90 : (h80.1 96 19).toInt = (h68.1 96 19).toInt := by rw [(fl81 96 (by decide)).1]
            have s91 : (h80.1 96 18).toInt = (h68.1 96 18).toInt := by rw [(fl81 96 (by decide)).1]
            have s92 : (h80.1 96 20).toInt = (h68.1 96 20).toInt := by rw [(fl81 96 (by decide)).1]
            have s93 : (h80.1 96 46).toInt = (h68.1 96 46).toInt := by rw [(fl81 96 (by decide)).1]
            have s94 : (h80.1 96 44).toInt = (h68.1 96 44).toInt := by rw [(fl81 96 (by decide)).1]
            have s95 : (h80.1 96 47).toInt = (h68.1 96 47).toInt := by rw [(fl81 96 (by decide)).1]
            have s96 : (h80.1 96 48).toInt = (h68.1 96 48).toInt := by rw [(fl81 96 (by decide)).1]
            have s97 : (h80.1 96 51).toInt = (h68.1 96 51).toInt := by rw [(fl81 96 (by decide)).1]
            have fl22 : FR [96, 107, 108, 109, 110, 111, 112, 113, 114, 115, 116, 117, 118, 119] h5 h80 := fl22.trans fl81 (by decide)
            have hK := m88
            have hE := m89
            refine R_iload (k := 4) rfl rfl ?_
            refine R_aload_n (k := 0) rfl rfl rfl ?_
            have b98 : (0 : Int) ≤ (h80.1 97 5).toInt ∧ (h80.1 97 5).toInt ≤ 6 := hI.1 97 5
            have b99 : (0 : Int) ≤ (h80.1 97 0).toInt ∧ (h80.1 97 0).toInt ≤ 60 := hI.1 97 0
            have e100 : 0 < (h80.1 97 5).toInt → 1 ≤ (h80.1 97 0).toInt := hI.2.2.2.2.2.1.2.2
            refine R_callV (v := .inr (.inr (.inl 96))) (As := []) (rest := [.inl x82]) rfl mt_9_i133 pp_X9_hands (by decide) rfl rfl rfl (Nat.le_of_ble_eq_true rfl) (Nat.le_of_ble_eq_true rfl) ((k_X9_hands h80 hI).mono (fun r101 h102 p103 => ?_))
            obtain ⟨rfl, x104, rfl, q105⟩ := p103
            show RUN d_X9_goAll 43 [(4, .inl x82), (3, .inl x47), (2, .inl x23), (0, .inr (.inr (.inl 96))), (1, .inl a0)] [.inl x104, .inl x82] h80 _
            refine N_icmp_ge (a := x82.toInt) (b := x104.toInt) 127 rfl rfl rfl rfl (fun c106 => ?_) (fun c106 => ?_)
            · refine R_iconst 0 rfl rfl ?_
              refine R_istore (k := 4) [(4, .inl 0), (3, .inl x47), (2, .inl x23), (0, .inr (.inr (.inl 96))), (1, .inl a0)] rfl rfl (by decide) ?_
              have lp108 : ∀ (n107 : Nat) (h109 : PH) (x111 : Int32), INV h109 → FR [96, 107, 108, 109, 110, 111, 112, 113, 114, 115, 116, 117, 118, 119] h h109 → FR [112, 113, 114, 115, 119] h80 h109 → 0 ≤ x111.toInt ∧ x111.toInt ≤ 6 → (kyOf h109 = zSecond (evOf h) x23 x49 (kyOf h21)) → (evOf h109 = evOf h) → (6 - x111.toInt).toNat < n107 → RUN d_X9_goAll 130 [(4, .inl x111), (3, .inl x47), (2, .inl x23), (0, .inr (.inr (.inl 96))), (1, .inl a0)] [] h109 (qg_X9_goAll h a0) := by
                intro n107
                induction n107 with
                | zero => intro h109 x111 m113 m114 m115 m116 m117 m118 hz; exact absurd hz (Nat.not_lt_zero _)
                | succ n107 ih112 =>
                  intro h109 x111 hI fr fl110 m116 m117 m118 hz
                  have s119 : (h109.1 96 19).toInt = (h80.1 96 19).toInt := by rw [(fl110 96 (by decide)).1]
                  have s120 : (h109.1 96 18).toInt = (h80.1 96 18).toInt := by rw [(fl110 96 (by decide)).1]
                  have s121 : (h109.1 96 20).toInt = (h80.1 96 20).toInt := by rw [(fl110 96 (by decide)).1]
                  have s122 : (h109.1 96 46).toInt = (h80.1 96 46).toInt := by rw [(fl110 96 (by decide)).1]
                  have s123 : (h109.1 96 44).toInt = (h80.1 96 44).toInt := by rw [(fl110 96 (by decide)).1]
                  have s124 : (h109.1 96 47).toInt = (h80.1 96 47).toInt := by rw [(fl110 96 (by decide)).1]
                  have s125 : (h109.1 96 48).toInt = (h80.1 96 48).toInt := by rw [(fl110 96 (by decide)).1]
                  have s126 : (h109.1 96 51).toInt = (h80.1 96 51).toInt := by rw [(fl110 96 (by decide)).1]
                  have s127 : (h109.1 97 5).toInt = (h80.1 97 5).toInt := by rw [(fl110 97 (by decide)).1]
                  have s128 : (h109.1 97 0).toInt = (h80.1 97 0).toInt := by rw [(fl110 97 (by decide)).1]
                  have fl81 : FR [110, 111, 112, 113, 114, 115, 116, 119] h68 h109 := fl81.trans fl110 (by decide)
                  have fl22 : FR [96, 107, 108, 109, 110, 111, 112, 113, 114, 115, 116, 117, 118, 119] h5 h109 := fl22.trans fl110 (by decide)
                  have hK := m117
                  have hE := m118
                  refine R_iload (k := 4) rfl rfl ?_
                  refine R_bipush 6 rfl rfl ?_
                  refine N_icmp_ge (a := x111.toInt) (b := 6) 157 rfl rfl rfl (by decide) (fun c129 => ?_) (fun c129 => ?_)
                  · refine R_aload_n (k := 0) rfl rfl rfl ?_
                    refine R_getf_r (j := 27) rfl ft_9_61 sh_96 rfl ?_
                    refine R_iload_n (k := 2) rfl rfl rfl ?_
                    refine R_aload_n (k := 0) rfl rfl rfl ?_
                    refine R_getf_r (j := 24) rfl ft_9_52 sh_96 rfl ?_
                    refine R_iconst 0 rfl rfl ?_
                    refine R_iald rfl sh_109 (by decide) ?_
                    refine N_eq (fun x130 e131 => ?_)
                    have e132 : x130 = ((zSecond (evOf h) x23 x49 (kyOf h21)).2.2.1) (0 : Int32).toNatClampNeg := by rw [e131]; exact (ky_at109 (by decide)).trans (congrFun (congrArg (fun q : KY => q.2.2.1) hK) _)
                    refine K_iast (a := x23.toInt) (lo := (-2147483648)) (hi' := 2147483647) rfl sh_112 rfl ⟨by omega, by omega⟩ hI (by decide) rfl (i_rng _) fr (by decide) (fun h133 g134 hI fr => ?_)
                    have fl110 : FR [112, 113, 114, 115, 119] h80 h133 := by rw [g134]; exact FR_wI _ _ fl110 (by decide)
                    have fl81 : FR [110, 111, 112, 113, 114, 115, 116, 119] h68 h133 := by rw [g134]; exact FR_wI _ _ fl81 (by decide)
                    have fl22 : FR [96, 107, 108, 109, 110, 111, 112, 113, 114, 115, 116, 117, 118, 119] h5 h133 := by rw [g134]; exact FR_wI _ _ fl22 (by decide)
                    have s135 : (h133.1 96 19).toInt = (h109.1 96 19).toInt := by rw [g134, wI_ne _ _ _ (by decide)]
                    have s136 : (h133.1 96 18).toInt = (h109.1 96 18).toInt := by rw [g134, wI_ne _ _ _ (by decide)]
                    have s137 : (h133.1 96 20).toInt = (h109.1 96 20).toInt := by rw [g134, wI_ne _ _ _ (by decide)]
                    have s138 : (h133.1 96 46).toInt = (h109.1 96 46).toInt := by rw [g134, wI_ne _ _ _ (by decide)]
                    have s139 : (h133.1 96 44).toInt = (h109.1 96 44).toInt := by rw [g134, wI_ne _ _ _ (by decide)]
                    have s140 : (h133.1 96 47).toInt = (h109.1 96 47).toInt := by rw [g134, wI_ne _ _ _ (by decide)]
                    have s141 : (h133.1 96 48).toInt = (h109.1 96 48).toInt := by rw [g134, wI_ne _ _ _ (by decide)]
                    have s142 : (h133.1 96 51).toInt = (h109.1 96 51).toInt := by rw [g134, wI_ne _ _ _ (by decide)]
                    have s143 : (h133.1 97 5).toInt = (h109.1 97 5).toInt := by rw [g134, wI_ne _ _ _ (by decide)]
                    have s144 : (h133.1 97 0).toInt = (h109.1 97 0).toInt := by rw [g134, wI_ne _ _ _ (by decide)]
                    have hK : kyOf h133 = zSecond (evOf h) x23 x49 (kyOf h21) := by rw [g134, ky_o (by decide), hK]
                    have hE : evOf h133 = evOf h := by rw [g134, ev_o (by decide), hE]
                    refine R_aload_n (k := 0) rfl rfl rfl ?_
                    refine R_getf_r (j := 28) rfl ft_9_64 sh_96 rfl ?_
                    refine R_iload_n (k := 2) rfl rfl rfl ?_
                    refine R_aload_n (k := 0) rfl rfl rfl ?_
                    refine R_getf_i (j := 34) rfl ft_9_262 sh_96 rfl ?_
                    refine K_iast (a := x23.toInt) (lo := (-2147483648)) (hi' := 2147483647) rfl sh_113 rfl ⟨by omega, by omega⟩ hI (by decide) rfl (i_rng _) fr (by decide) (fun h145 g146 hI fr => ?_)
                    have fl110 : FR [112, 113, 114, 115, 119] h80 h145 := by rw [g146]; exact FR_wI _ _ fl110 (by decide)
                    have fl81 : FR [110, 111, 112, 113, 114, 115, 116, 119] h68 h145 := by rw [g146]; exact FR_wI _ _ fl81 (by decide)
                    have fl22 : FR [96, 107, 108, 109, 110, 111, 112, 113, 114, 115, 116, 117, 118, 119] h5 h145 := by rw [g146]; exact FR_wI _ _ fl22 (by decide)
                    have s147 : (h145.1 96 19).toInt = (h133.1 96 19).toInt := by rw [g146, wI_ne _ _ _ (by decide)]
                    have s148 : (h145.1 96 18).toInt = (h133.1 96 18).toInt := by rw [g146, wI_ne _ _ _ (by decide)]
                    have s149 : (h145.1 96 20).toInt = (h133.1 96 20).toInt := by rw [g146, wI_ne _ _ _ (by decide)]
                    have s150 : (h145.1 96 46).toInt = (h133.1 96 46).toInt := by rw [g146, wI_ne _ _ _ (by decide)]
                    have s151 : (h145.1 96 44).toInt = (h133.1 96 44).toInt := by rw [g146, wI_ne _ _ _ (by decide)]
                    have s152 : (h145.1 96 47).toInt = (h133.1 96 47).toInt := by rw [g146, wI_ne _ _ _ (by decide)]
                    have s153 : (h145.1 96 48).toInt = (h133.1 96 48).toInt := by rw [g146, wI_ne _ _ _ (by decide)]
                    have s154 : (h145.1 96 51).toInt = (h133.1 96 51).toInt := by rw [g146, wI_ne _ _ _ (by decide)]
                    have s155 : (h145.1 97 5).toInt = (h133.1 97 5).toInt := by rw [g146, wI_ne _ _ _ (by decide)]
                    have s156 : (h145.1 97 0).toInt = (h133.1 97 0).toInt := by rw [g146, wI_ne _ _ _ (by decide)]
                    have s157 : (h145.1 96 34).toInt = (h133.1 96 34).toInt := by rw [g146, wI_ne _ _ _ (by decide)]
                    have hK : kyOf h145 = zSecond (evOf h) x23 x49 (kyOf h21) := by rw [g146, ky_o (by decide), hK]
                    have hE : evOf h145 = evOf h := by rw [g146, ev_o (by decide), hE]
                    refine R_aload_n (k := 0) rfl rfl rfl ?_
                    refine R_getf_r (j := 29) rfl ft_9_67 sh_96 rfl ?_
                    refine R_iload_n (k := 2) rfl rfl rfl ?_
                    refine R_aload_n (k := 0) rfl rfl rfl ?_
                    refine R_getf_i (j := 35) rfl ft_9_265 sh_96 rfl ?_
                    refine N_eq (fun x158 e159 => ?_)
                    have e160 : x158 = (zSecond (evOf h) x23 x49 (kyOf h21)).2.2.2 := by rw [e159]; exact congrArg (fun q : KY => q.2.2.2) hK
                    refine K_iast (a := x23.toInt) (lo := (-2147483648)) (hi' := 2147483647) rfl sh_114 rfl ⟨by omega, by omega⟩ hI (by decide) rfl (i_rng _) fr (by decide) (fun h161 g162 hI fr => ?_)
                    have fl110 : FR [112, 113, 114, 115, 119] h80 h161 := by rw [g162]; exact FR_wI _ _ fl110 (by decide)
                    have fl81 : FR [110, 111, 112, 113, 114, 115, 116, 119] h68 h161 := by rw [g162]; exact FR_wI _ _ fl81 (by decide)
                    have fl22 : FR [96, 107, 108, 109, 110, 111, 112, 113, 114, 115, 116, 117, 118, 119] h5 h161 := by rw [g162]; exact FR_wI _ _ fl22 (by decide)
                    have s163 : (h161.1 96 19).toInt = (h145.1 96 19).toInt := by rw [g162, wI_ne _ _ _ (by decide)]
                    have s164 : (h161.1 96 18).toInt = (h145.1 96 18).toInt := by rw [g162, wI_ne _ _ _ (by decide)]
                    have s165 : (h161.1 96 20).toInt = (h145.1 96 20).toInt := by rw [g162, wI_ne _ _ _ (by decide)]
                    have s166 : (h161.1 96 46).toInt = (h145.1 96 46).toInt := by rw [g162, wI_ne _ _ _ (by decide)]
                    have s167 : (h161.1 96 44).toInt = (h145.1 96 44).toInt := by rw [g162, wI_ne _ _ _ (by decide)]
                    have s168 : (h161.1 96 47).toInt = (h145.1 96 47).toInt := by rw [g162, wI_ne _ _ _ (by decide)]
                    have s169 : (h161.1 96 48).toInt = (h145.1 96 48).toInt := by rw [g162, wI_ne _ _ _ (by decide)]
                    have s170 : (h161.1 96 51).toInt = (h145.1 96 51).toInt := by rw [g162, wI_ne _ _ _ (by decide)]
                    have s171 : (h161.1 97 5).toInt = (h145.1 97 5).toInt := by rw [g162, wI_ne _ _ _ (by decide)]
                    have s172 : (h161.1 97 0).toInt = (h145.1 97 0).toInt := by rw [g162, wI_ne _ _ _ (by decide)]
                    have s173 : (h161.1 96 34).toInt = (h145.1 96 34).toInt := by rw [g162, wI_ne _ _ _ (by decide)]
                    have hK : kyOf h161 = zSecond (evOf h) x23 x49 (kyOf h21) := by rw [g162, ky_o (by decide), hK]
                    have hE : evOf h161 = evOf h := by rw [g162, ev_o (by decide), hE]
                    refine R_aload_n (k := 0) rfl rfl rfl ?_
                    refine R_getf_r (j := 30) rfl ft_9_70 sh_96 rfl ?_
                    refine R_iload_n (k := 2) rfl rfl rfl ?_
                    refine R_aload_n (k := 0) rfl rfl rfl ?_
                    refine R_getf_i (j := 36) rfl ft_9_268 sh_96 rfl ?_
                    refine K_iast (a := x23.toInt) (lo := (-2147483648)) (hi' := 2147483647) rfl sh_115 rfl ⟨by omega, by omega⟩ hI (by decide) rfl (i_rng _) fr (by decide) (fun h174 g175 hI fr => ?_)
                    have fl110 : FR [112, 113, 114, 115, 119] h80 h174 := by rw [g175]; exact FR_wI _ _ fl110 (by decide)
                    have fl81 : FR [110, 111, 112, 113, 114, 115, 116, 119] h68 h174 := by rw [g175]; exact FR_wI _ _ fl81 (by decide)
                    have fl22 : FR [96, 107, 108, 109, 110, 111, 112, 113, 114, 115, 116, 117, 118, 119] h5 h174 := by rw [g175]; exact FR_wI _ _ fl22 (by decide)
                    have s176 : (h174.1 96 19).toInt = (h161.1 96 19).toInt := by rw [g175, wI_ne _ _ _ (by decide)]
                    have s177 : (h174.1 96 18).toInt = (h161.1 96 18).toInt := by rw [g175, wI_ne _ _ _ (by decide)]
                    have s178 : (h174.1 96 20).toInt = (h161.1 96 20).toInt := by rw [g175, wI_ne _ _ _ (by decide)]
                    have s179 : (h174.1 96 46).toInt = (h161.1 96 46).toInt := by rw [g175, wI_ne _ _ _ (by decide)]
                    have s180 : (h174.1 96 44).toInt = (h161.1 96 44).toInt := by rw [g175, wI_ne _ _ _ (by decide)]
                    have s181 : (h174.1 96 47).toInt = (h161.1 96 47).toInt := by rw [g175, wI_ne _ _ _ (by decide)]
                    have s182 : (h174.1 96 48).toInt = (h161.1 96 48).toInt := by rw [g175, wI_ne _ _ _ (by decide)]
                    have s183 : (h174.1 96 51).toInt = (h161.1 96 51).toInt := by rw [g175, wI_ne _ _ _ (by decide)]
                    have s184 : (h174.1 97 5).toInt = (h161.1 97 5).toInt := by rw [g175, wI_ne _ _ _ (by decide)]
                    have s185 : (h174.1 97 0).toInt = (h161.1 97 0).toInt := by rw [g175, wI_ne _ _ _ (by decide)]
                    have s186 : (h174.1 96 34).toInt = (h161.1 96 34).toInt := by rw [g175, wI_ne _ _ _ (by decide)]
                    have s187 : (h174.1 96 36).toInt = (h161.1 96 36).toInt := by rw [g175, wI_ne _ _ _ (by decide)]
                    have hK : kyOf h174 = zSecond (evOf h) x23 x49 (kyOf h21) := by rw [g175, ky_o (by decide), hK]
                    have hE : evOf h174 = evOf h := by rw [g175, ev_o (by decide), hE]
                    refine N_iinc (a := x23.toInt) (c := 1) (fun w => [(2, .inl w), (4, .inl x111), (3, .inl x47), (0, .inr (.inr (.inl 96))), (1, .inl a0)]) rfl rfl (fun _ => rfl) (by decide) rfl (by decide) (by omega) (fun x188 q189 => ?_)
                    refine R_goto 6 rfl rfl ?_
                    exact RUN_weak (psub_cons rfl (psub_cons rfl (psub_cons rfl (psub_nil _)))) (ih24 h174 x188 hI fr fl22 (by omega) (by omega) (by omega) (by omega) (by omega) (by omega) (by omega) (by omega) (by omega) trivial trivial (by omega) (by rw [zRun_s (x := x23) (x' := x188) (by omega) (by omega), ← m40]; refine hK.trans ?_; subst e160 e132 e51; rfl) (fun _ => by rw [← tn2 (x := x23) (a := x188.toInt - 1) (by omega) (by omega), g175, wI_ne _ _ _ (by decide), g162, wI_is, ← g162, ← g175, hK]; exact e160) (hE) (by omega))
                  · refine R_aload_n (k := 0) rfl rfl rfl ?_
                    refine R_getf_r (j := 37) rfl ft_9_82 sh_96 rfl ?_
                    refine R_iload (k := 4) rfl rfl ?_
                    refine R_aload_n (k := 0) rfl rfl rfl ?_
                    refine R_getf_r (j := 32) rfl ft_9_76 sh_96 rfl ?_
                    refine R_iload (k := 4) rfl rfl ?_
                    refine R_iald rfl sh_117 ⟨by omega, by omega⟩ ?_
                    refine N_eq (fun x190 e191 => ?_)
                    refine K_iast (a := x111.toInt) (lo := (-2147483648)) (hi' := 2147483647) rfl sh_119 rfl ⟨by omega, by omega⟩ hI (by decide) rfl (i_rng _) fr (by decide) (fun h192 g193 hI fr => ?_)
                    have fl110 : FR [112, 113, 114, 115, 119] h80 h192 := by rw [g193]; exact FR_wI _ _ fl110 (by decide)
                    have fl81 : FR [110, 111, 112, 113, 114, 115, 116, 119] h68 h192 := by rw [g193]; exact FR_wI _ _ fl81 (by decide)
                    have fl22 : FR [96, 107, 108, 109, 110, 111, 112, 113, 114, 115, 116, 117, 118, 119] h5 h192 := by rw [g193]; exact FR_wI _ _ fl22 (by decide)
                    have s194 : (h192.1 96 19).toInt = (h109.1 96 19).toInt := by rw [g193, wI_ne _ _ _ (by decide)]
                    have s195 : (h192.1 96 18).toInt = (h109.1 96 18).toInt := by rw [g193, wI_ne _ _ _ (by decide)]
                    have s196 : (h192.1 96 20).toInt = (h109.1 96 20).toInt := by rw [g193, wI_ne _ _ _ (by decide)]
                    have s197 : (h192.1 96 46).toInt = (h109.1 96 46).toInt := by rw [g193, wI_ne _ _ _ (by decide)]
                    have s198 : (h192.1 96 44).toInt = (h109.1 96 44).toInt := by rw [g193, wI_ne _ _ _ (by decide)]
                    have s199 : (h192.1 96 47).toInt = (h109.1 96 47).toInt := by rw [g193, wI_ne _ _ _ (by decide)]
                    have s200 : (h192.1 96 48).toInt = (h109.1 96 48).toInt := by rw [g193, wI_ne _ _ _ (by decide)]
                    have s201 : (h192.1 96 51).toInt = (h109.1 96 51).toInt := by rw [g193, wI_ne _ _ _ (by decide)]
                    have s202 : (h192.1 97 5).toInt = (h109.1 97 5).toInt := by rw [g193, wI_ne _ _ _ (by decide)]
                    have s203 : (h192.1 97 0).toInt = (h109.1 97 0).toInt := by rw [g193, wI_ne _ _ _ (by decide)]
                    have hK : kyOf h192 = zSecond (evOf h) x23 x49 (kyOf h21) := by rw [g193, ky_o (by decide), hK]
                    have hE : evOf h192 = evOf h := by rw [g193, ev_o (by decide), hE]
                    refine N_iinc (a := x111.toInt) (c := 1) (fun w => [(4, .inl w), (3, .inl x47), (2, .inl x23), (0, .inr (.inr (.inl 96))), (1, .inl a0)]) rfl rfl (fun _ => rfl) (by decide) rfl (by decide) (by omega) (fun x204 q205 => ?_)
                    refine R_goto 130 rfl rfl ?_
                    exact RUN_weak (psub_cons rfl (psub_cons rfl (psub_cons rfl (psub_cons rfl (psub_cons rfl (psub_nil _)))))) (ih112 h192 x204 hI fr fl110 (by omega) (hK) (hE) (by omega))
              have k206 : (0 : Int32).toInt = 0 := by decide
              exact lp108 _ h80 (0 : Int32) hI fr (FR.rf _ _) (by decide) (hK) (hE) (Nat.lt_succ_self _)
            · refine R_aload_n (k := 0) rfl rfl rfl ?_
              refine R_getf_r (j := 25) rfl ft_9_55 sh_96 rfl ?_
              refine R_bipush 6 rfl rfl ?_
              refine R_iload_n (k := 2) rfl rfl rfl ?_
              refine R_imul rfl ?_
              refine N_eq (fun x207 e208 => ?_)
              have q209 : x207.toInt = 6 * x23.toInt := by rw [e208]; exact i_mul (by decide) rfl (by omega)
              refine R_iload (k := 4) rfl rfl ?_
              refine R_iadd rfl ?_
              refine N_eq (fun x210 e211 => ?_)
              have q212 : x210.toInt = x207.toInt + x82.toInt := by rw [e211]; exact i_add rfl rfl (by omega)
              refine R_aload_n (k := 0) rfl rfl rfl ?_
              refine R_getf_r (j := 22) rfl ft_9_46 sh_96 rfl ?_
              refine R_iload (k := 4) rfl rfl ?_
              refine R_iald rfl sh_107 ⟨by omega, by omega⟩ ?_
              refine N_eq (fun x213 e214 => ?_)
              have e215 : x213 = ((zSecond (evOf h) x23 x49 (kyOf h21)).1) x82.toNatClampNeg := by rw [e214]; exact (ky_at107 (nlt ⟨by omega, by omega⟩)).trans (congrFun (congrArg (fun q : KY => q.1) hK) _)
              refine K_iast (a := x210.toInt) (lo := (-2147483648)) (hi' := 2147483647) rfl sh_110 rfl ⟨by omega, by omega⟩ hI (by decide) rfl (i_rng _) fr (by decide) (fun h216 g217 hI fr => ?_)
              have fl81 : FR [110, 111, 112, 113, 114, 115, 116, 119] h68 h216 := by rw [g217]; exact FR_wI _ _ fl81 (by decide)
              have fl22 : FR [96, 107, 108, 109, 110, 111, 112, 113, 114, 115, 116, 117, 118, 119] h5 h216 := by rw [g217]; exact FR_wI _ _ fl22 (by decide)
              have s218 : (h216.1 96 19).toInt = (h80.1 96 19).toInt := by rw [g217, wI_ne _ _ _ (by decide)]
              have s219 : (h216.1 96 18).toInt = (h80.1 96 18).toInt := by rw [g217, wI_ne _ _ _ (by decide)]
              have s220 : (h216.1 96 20).toInt = (h80.1 96 20).toInt := by rw [g217, wI_ne _ _ _ (by decide)]
              have s221 : (h216.1 96 46).toInt = (h80.1 96 46).toInt := by rw [g217, wI_ne _ _ _ (by decide)]
              have s222 : (h216.1 96 44).toInt = (h80.1 96 44).toInt := by rw [g217, wI_ne _ _ _ (by decide)]
              have s223 : (h216.1 96 47).toInt = (h80.1 96 47).toInt := by rw [g217, wI_ne _ _ _ (by decide)]
              have s224 : (h216.1 96 48).toInt = (h80.1 96 48).toInt := by rw [g217, wI_ne _ _ _ (by decide)]
              have s225 : (h216.1 96 51).toInt = (h80.1 96 51).toInt := by rw [g217, wI_ne _ _ _ (by decide)]
              have s226 : (h216.1 97 5).toInt = (h80.1 97 5).toInt := by rw [g217, wI_ne _ _ _ (by decide)]
              have s227 : (h216.1 97 0).toInt = (h80.1 97 0).toInt := by rw [g217, wI_ne _ _ _ (by decide)]
              have hK : kyOf h216 = zSecond (evOf h) x23 x49 (kyOf h21) := by rw [g217, ky_o (by decide), hK]
              have hE : evOf h216 = evOf h := by rw [g217, ev_o (by decide), hE]
              refine R_aload_n (k := 0) rfl rfl rfl ?_
              refine R_getf_r (j := 26) rfl ft_9_58 sh_96 rfl ?_
              refine R_bipush 6 rfl rfl ?_
              refine R_iload_n (k := 2) rfl rfl rfl ?_
              refine R_imul rfl ?_
              refine N_eq (fun x228 e229 => ?_)
              have q230 : x228.toInt = 6 * x23.toInt := by rw [e229]; exact i_mul (by decide) rfl (by omega)
              refine R_iload (k := 4) rfl rfl ?_
              refine R_iadd rfl ?_
              refine N_eq (fun x231 e232 => ?_)
              have q233 : x231.toInt = x228.toInt + x82.toInt := by rw [e232]; exact i_add rfl rfl (by omega)
              refine R_aload_n (k := 0) rfl rfl rfl ?_
              refine R_getf_r (j := 23) rfl ft_9_49 sh_96 rfl ?_
              refine R_iload (k := 4) rfl rfl ?_
              refine R_iald rfl sh_108 ⟨by omega, by omega⟩ ?_
              refine N_eq (fun x234 e235 => ?_)
              have e236 : x234 = ((zSecond (evOf h) x23 x49 (kyOf h21)).2.1) x82.toNatClampNeg := by rw [e235]; exact (ky_at108 (nlt ⟨by omega, by omega⟩)).trans (congrFun (congrArg (fun q : KY => q.2.1) hK) _)
              refine K_iast (a := x231.toInt) (lo := (-2147483648)) (hi' := 2147483647) rfl sh_111 rfl ⟨by omega, by omega⟩ hI (by decide) rfl (i_rng _) fr (by decide) (fun h237 g238 hI fr => ?_)
              have fl81 : FR [110, 111, 112, 113, 114, 115, 116, 119] h68 h237 := by rw [g238]; exact FR_wI _ _ fl81 (by decide)
              have fl22 : FR [96, 107, 108, 109, 110, 111, 112, 113, 114, 115, 116, 117, 118, 119] h5 h237 := by rw [g238]; exact FR_wI _ _ fl22 (by decide)
              have s239 : (h237.1 96 19).toInt = (h216.1 96 19).toInt := by rw [g238, wI_ne _ _ _ (by decide)]
              have s240 : (h237.1 96 18).toInt = (h216.1 96 18).toInt := by rw [g238, wI_ne _ _ _ (by decide)]
              have s241 : (h237.1 96 20).toInt = (h216.1 96 20).toInt := by rw [g238, wI_ne _ _ _ (by decide)]
              have s242 : (h237.1 96 46).toInt = (h216.1 96 46).toInt := by rw [g238, wI_ne _ _ _ (by decide)]
              have s243 : (h237.1 96 44).toInt = (h216.1 96 44).toInt := by rw [g238, wI_ne _ _ _ (by decide)]
              have s244 : (h237.1 96 47).toInt = (h216.1 96 47).toInt := by rw [g238, wI_ne _ _ _ (by decide)]
              have s245 : (h237.1 96 48).toInt = (h216.1 96 48).toInt := by rw [g238, wI_ne _ _ _ (by decide)]
              have s246 : (h237.1 96 51).toInt = (h216.1 96 51).toInt := by rw [g238, wI_ne _ _ _ (by decide)]
              have s247 : (h237.1 97 5).toInt = (h216.1 97 5).toInt := by rw [g238, wI_ne _ _ _ (by decide)]
              have s248 : (h237.1 97 0).toInt = (h216.1 97 0).toInt := by rw [g238, wI_ne _ _ _ (by decide)]
              have hK : kyOf h237 = zSecond (evOf h) x23 x49 (kyOf h21) := by rw [g238, ky_o (by decide), hK]
              have hE : evOf h237 = evOf h := by rw [g238, ev_o (by decide), hE]
              refine R_aload_n (k := 0) rfl rfl rfl ?_
              refine R_getf_r (j := 31) rfl ft_9_73 sh_96 rfl ?_
              refine R_iload_n (k := 2) rfl rfl rfl ?_
              refine R_dup2 rfl ?_
              refine R_iald rfl sh_116 ⟨by omega, by omega⟩ ?_
              refine N_eq (fun x249 e250 => ?_)
              refine R_iload_n (k := 3) rfl rfl rfl ?_
              refine R_iload (k := 4) rfl rfl ?_
              refine R_callS (As := [.inl x47, .inl x82]) (rest := [.inl x249, .inl x23, .inr (.inr (.inl 116))]) rfl mt_9_i292 (by decide) pp_X9_bit (by decide) rfl rfl (Nat.le_of_ble_eq_true rfl) (Nat.le_of_ble_eq_true rfl) ((k_X9_bit h237 hI x47 x82 (by omega)).mono (fun r251 h252 p253 => ?_))
              obtain ⟨rfl, x254, rfl, q255⟩ := p253
              show RUN d_X9_goAll 97 [(4, .inl x82), (3, .inl x47), (2, .inl x23), (0, .inr (.inr (.inl 96))), (1, .inl a0)] [.inl x254, .inl x249, .inl x23, .inr (.inr (.inl 116))] h237 _
              refine R_iconst 1 rfl rfl ?_
              refine N_icmp_ne (a := x254.toInt) (b := 1) 118 rfl rfl rfl (by decide) (fun c256 => ?_) (fun c256 => ?_)
              · refine R_iconst 0 rfl rfl ?_
                refine R_ior rfl ?_
                refine N_eq (fun x257 e258 => ?_)
                refine K_iast (a := x23.toInt) (lo := (-2147483648)) (hi' := 2147483647) rfl sh_116 rfl ⟨by omega, by omega⟩ hI (by decide) rfl (i_rng _) fr (by decide) (fun h259 g260 hI fr => ?_)
                have fl81 : FR [110, 111, 112, 113, 114, 115, 116, 119] h68 h259 := by rw [g260]; exact FR_wI _ _ fl81 (by decide)
                have fl22 : FR [96, 107, 108, 109, 110, 111, 112, 113, 114, 115, 116, 117, 118, 119] h5 h259 := by rw [g260]; exact FR_wI _ _ fl22 (by decide)
                have s261 : (h259.1 96 19).toInt = (h237.1 96 19).toInt := by rw [g260, wI_ne _ _ _ (by decide)]
                have s262 : (h259.1 96 18).toInt = (h237.1 96 18).toInt := by rw [g260, wI_ne _ _ _ (by decide)]
                have s263 : (h259.1 96 20).toInt = (h237.1 96 20).toInt := by rw [g260, wI_ne _ _ _ (by decide)]
                have s264 : (h259.1 96 46).toInt = (h237.1 96 46).toInt := by rw [g260, wI_ne _ _ _ (by decide)]
                have s265 : (h259.1 96 44).toInt = (h237.1 96 44).toInt := by rw [g260, wI_ne _ _ _ (by decide)]
                have s266 : (h259.1 96 47).toInt = (h237.1 96 47).toInt := by rw [g260, wI_ne _ _ _ (by decide)]
                have s267 : (h259.1 96 48).toInt = (h237.1 96 48).toInt := by rw [g260, wI_ne _ _ _ (by decide)]
                have s268 : (h259.1 96 51).toInt = (h237.1 96 51).toInt := by rw [g260, wI_ne _ _ _ (by decide)]
                have s269 : (h259.1 97 5).toInt = (h237.1 97 5).toInt := by rw [g260, wI_ne _ _ _ (by decide)]
                have s270 : (h259.1 97 0).toInt = (h237.1 97 0).toInt := by rw [g260, wI_ne _ _ _ (by decide)]
                have hK : kyOf h259 = zSecond (evOf h) x23 x49 (kyOf h21) := by rw [g260, ky_o (by decide), hK]
                have hE : evOf h259 = evOf h := by rw [g260, ev_o (by decide), hE]
                refine N_iinc (a := x82.toInt) (c := 1) (fun w => [(4, .inl w), (3, .inl x47), (2, .inl x23), (0, .inr (.inr (.inl 96))), (1, .inl a0)]) rfl rfl (fun _ => rfl) (by decide) rfl (by decide) (by omega) (fun x271 q272 => ?_)
                refine R_goto 37 rfl rfl ?_
                exact RUN_weak (psub_cons rfl (psub_cons rfl (psub_cons rfl (psub_cons rfl (psub_cons rfl (psub_nil _)))))) (ih83 h259 x271 hI fr fl81 (by omega) (hK) (hE) (by omega))
              · refine R_aload_n (k := 0) rfl rfl rfl ?_
                refine R_iload (k := 4) rfl rfl ?_
                refine R_iload_n (k := 2) rfl rfl rfl ?_
                refine R_callV (v := .inr (.inr (.inl 96))) (As := [.inl x82, .inl x23]) (rest := [.inl x249, .inl x23, .inr (.inr (.inl 116))]) rfl mt_9_i295 pp_X9_passedIn (by decide) rfl rfl rfl (Nat.le_of_ble_eq_true rfl) (Nat.le_of_ble_eq_true rfl) ((k_X9_passedIn h237 hI x82 x23 (by omega) (by omega)).mono (fun r273 h274 p275 => ?_))
                obtain ⟨rfl, x276, rfl, q277⟩ := p275
                show RUN d_X9_goAll 108 [(4, .inl x82), (3, .inl x47), (2, .inl x23), (0, .inr (.inr (.inl 96))), (1, .inl a0)] [.inl x276, .inl x249, .inl x23, .inr (.inr (.inl 116))] h237 _
                refine N_if_ne (a := x276.toInt) 118 rfl rfl rfl (fun c278 => ?_) (fun c278 => ?_)
                · refine R_iconst 0 rfl rfl ?_
                  refine R_ior rfl ?_
                  refine N_eq (fun x279 e280 => ?_)
                  refine K_iast (a := x23.toInt) (lo := (-2147483648)) (hi' := 2147483647) rfl sh_116 rfl ⟨by omega, by omega⟩ hI (by decide) rfl (i_rng _) fr (by decide) (fun h281 g282 hI fr => ?_)
                  have fl81 : FR [110, 111, 112, 113, 114, 115, 116, 119] h68 h281 := by rw [g282]; exact FR_wI _ _ fl81 (by decide)
                  have fl22 : FR [96, 107, 108, 109, 110, 111, 112, 113, 114, 115, 116, 117, 118, 119] h5 h281 := by rw [g282]; exact FR_wI _ _ fl22 (by decide)
                  have s283 : (h281.1 96 19).toInt = (h237.1 96 19).toInt := by rw [g282, wI_ne _ _ _ (by decide)]
                  have s284 : (h281.1 96 18).toInt = (h237.1 96 18).toInt := by rw [g282, wI_ne _ _ _ (by decide)]
                  have s285 : (h281.1 96 20).toInt = (h237.1 96 20).toInt := by rw [g282, wI_ne _ _ _ (by decide)]
                  have s286 : (h281.1 96 46).toInt = (h237.1 96 46).toInt := by rw [g282, wI_ne _ _ _ (by decide)]
                  have s287 : (h281.1 96 44).toInt = (h237.1 96 44).toInt := by rw [g282, wI_ne _ _ _ (by decide)]
                  have s288 : (h281.1 96 47).toInt = (h237.1 96 47).toInt := by rw [g282, wI_ne _ _ _ (by decide)]
                  have s289 : (h281.1 96 48).toInt = (h237.1 96 48).toInt := by rw [g282, wI_ne _ _ _ (by decide)]
                  have s290 : (h281.1 96 51).toInt = (h237.1 96 51).toInt := by rw [g282, wI_ne _ _ _ (by decide)]
                  have s291 : (h281.1 97 5).toInt = (h237.1 97 5).toInt := by rw [g282, wI_ne _ _ _ (by decide)]
                  have s292 : (h281.1 97 0).toInt = (h237.1 97 0).toInt := by rw [g282, wI_ne _ _ _ (by decide)]
                  have hK : kyOf h281 = zSecond (evOf h) x23 x49 (kyOf h21) := by rw [g282, ky_o (by decide), hK]
                  have hE : evOf h281 = evOf h := by rw [g282, ev_o (by decide), hE]
                  refine N_iinc (a := x82.toInt) (c := 1) (fun w => [(4, .inl w), (3, .inl x47), (2, .inl x23), (0, .inr (.inr (.inl 96))), (1, .inl a0)]) rfl rfl (fun _ => rfl) (by decide) rfl (by decide) (by omega) (fun x293 q294 => ?_)
                  refine R_goto 37 rfl rfl ?_
                  exact RUN_weak (psub_cons rfl (psub_cons rfl (psub_cons rfl (psub_cons rfl (psub_cons rfl (psub_nil _)))))) (ih83 h281 x293 hI fr fl81 (by omega) (hK) (hE) (by omega))
                · refine R_iconst 1 rfl rfl ?_
                  refine R_iload (k := 4) rfl rfl ?_
                  refine R_ishl rfl ?_
                  refine N_eq (fun x295 e296 => ?_)
                  refine R_goto 119 rfl rfl ?_
                  refine R_ior rfl ?_
                  refine N_eq (fun x298 e299 => ?_)
                  refine K_iast (a := x23.toInt) (lo := (-2147483648)) (hi' := 2147483647) rfl sh_116 rfl ⟨by omega, by omega⟩ hI (by decide) rfl (i_rng _) fr (by decide) (fun h300 g301 hI fr => ?_)
                  have fl81 : FR [110, 111, 112, 113, 114, 115, 116, 119] h68 h300 := by rw [g301]; exact FR_wI _ _ fl81 (by decide)
                  have fl22 : FR [96, 107, 108, 109, 110, 111, 112, 113, 114, 115, 116, 117, 118, 119] h5 h300 := by rw [g301]; exact FR_wI _ _ fl22 (by decide)
                  have s302 : (h300.1 96 19).toInt = (h237.1 96 19).toInt := by rw [g301, wI_ne _ _ _ (by decide)]
                  have s303 : (h300.1 96 18).toInt = (h237.1 96 18).toInt := by rw [g301, wI_ne _ _ _ (by decide)]
                  have s304 : (h300.1 96 20).toInt = (h237.1 96 20).toInt := by rw [g301, wI_ne _ _ _ (by decide)]
                  have s305 : (h300.1 96 46).toInt = (h237.1 96 46).toInt := by rw [g301, wI_ne _ _ _ (by decide)]
                  have s306 : (h300.1 96 44).toInt = (h237.1 96 44).toInt := by rw [g301, wI_ne _ _ _ (by decide)]
                  have s307 : (h300.1 96 47).toInt = (h237.1 96 47).toInt := by rw [g301, wI_ne _ _ _ (by decide)]
                  have s308 : (h300.1 96 48).toInt = (h237.1 96 48).toInt := by rw [g301, wI_ne _ _ _ (by decide)]
                  have s309 : (h300.1 96 51).toInt = (h237.1 96 51).toInt := by rw [g301, wI_ne _ _ _ (by decide)]
                  have s310 : (h300.1 97 5).toInt = (h237.1 97 5).toInt := by rw [g301, wI_ne _ _ _ (by decide)]
                  have s311 : (h300.1 97 0).toInt = (h237.1 97 0).toInt := by rw [g301, wI_ne _ _ _ (by decide)]
                  have hK : kyOf h300 = zSecond (evOf h) x23 x49 (kyOf h21) := by rw [g301, ky_o (by decide), hK]
                  have hE : evOf h300 = evOf h := by rw [g301, ev_o (by decide), hE]
                  refine N_iinc (a := x82.toInt) (c := 1) (fun w => [(4, .inl w), (3, .inl x47), (2, .inl x23), (0, .inr (.inr (.inl 96))), (1, .inl a0)]) rfl rfl (fun _ => rfl) (by decide) rfl (by decide) (by omega) (fun x312 q313 => ?_)
                  refine R_goto 37 rfl rfl ?_
                  exact RUN_weak (psub_cons rfl (psub_cons rfl (psub_cons rfl (psub_cons rfl (psub_cons rfl (psub_nil _)))))) (ih83 h300 x312 hI fr fl81 (by omega) (hK) (hE) (by omega))
        have k314 : (0 : Int32).toInt = 0 := by decide
        exact lp79 _ h68 (0 : Int32) hI fr (FR.rf _ _) (by decide) (hK) (hE) (Nat.lt_succ_self _)
  have k315 : (0 : Int32).toInt = 0 := by decide
  exact lp20 _ h5 (0 : Int32) hI fr (FR.rf _ _) (by decide) rfl rfl rfl rfl rfl rfl rfl rfl trivial trivial (by omega) (by rw [hK]; rfl) (fun hc => absurd hc (by omega)) (hE) (Nat.lt_succ_self _)
