abbrev q_X9_bit (h : PH) (a0 : Int32) (a1 : Int32) : Option PV → PH → Prop := fun r h' => h = h' ∧ ∃ z : Int32, r = some (.inl z) ∧ ((0 ≤ z.toInt ∧ z.toInt ≤ 1))
set_option maxHeartbeats 4000000 in
set_option maxRecDepth 100000 in
theorem k_X9_bit (h : PH) (hI : INV h) (a0 : Int32) (a1 : Int32) (h1a : 0 ≤ a1.toInt ∧ a1.toInt ≤ 5) : CALL d_X9_bit [.inl a0, .inl a1] h (q_X9_bit h a0 a1) := by
  show RUN d_X9_bit 0 [(0, .inl a0), (1, .inl a1)] [] h _
  have b1 := i_rng a0
  refine R_iload_n (k := 0) rfl rfl rfl ?_
  refine R_iload_n (k := 1) rfl rfl rfl ?_
  refine R_ishr rfl ?_
  refine N_any (fun x2 => ?_)
  refine R_iconst 1 rfl rfl ?_
  refine N_iand (b := 1) rfl (by decide) (by omega) (fun x3 q4 => ?_)
  exact R_iret rfl rfl rfl ⟨rfl, _, rfl, by omega⟩
abbrev q_X9_passedIn (h : PH) (a0 : Int32) (a1 : Int32) : Option PV → PH → Prop := fun r h' => h = h' ∧ ∃ z : Int32, r = some (.inl z) ∧ ((True))
set_option maxHeartbeats 4000000 in
set_option maxRecDepth 100000 in
theorem k_X9_passedIn (h : PH) (hI : INV h) (a0 : Int32) (a1 : Int32) (h0a : 0 ≤ a0.toInt ∧ a0.toInt ≤ 5) (h1a : 0 ≤ a1.toInt ∧ a1.toInt ≤ 59) : CALL d_X9_passedIn [.inr (.inr (.inl 96)), .inl a0, .inl a1] h (q_X9_passedIn h a0 a1) := by
  show RUN d_X9_passedIn 0 [(0, .inr (.inr (.inl 96))), (1, .inl a0), (2, .inl a1)] [] h _
  refine R_iload_n (k := 2) rfl rfl rfl ?_
  refine N_if_ne (a := a1.toInt) 13 rfl rfl rfl (fun c1 => ?_) (fun c1 => ?_)
  · refine R_aload_n (k := 0) rfl rfl rfl ?_
    refine R_getf_r (j := 32) rfl ft_9_76 sh_96 rfl ?_
    refine R_iload_n (k := 1) rfl rfl rfl ?_
    refine R_iald rfl sh_117 ⟨by omega, by omega⟩ ?_
    refine N_any (fun x2 => ?_)
    refine R_aload_n (k := 0) rfl rfl rfl ?_
    refine R_getf_r (j := 37) rfl ft_9_82 sh_96 rfl ?_
    refine R_iload_n (k := 1) rfl rfl rfl ?_
    refine R_iald rfl sh_119 ⟨by omega, by omega⟩ ?_
    refine N_any (fun x3 => ?_)
    have b4 := i_rng x2
    have b5 := i_rng x3
    refine R_isub rfl ?_
    refine N_any (fun x6 => ?_)
    exact R_iret rfl rfl rfl ⟨rfl, _, rfl, trivial⟩
  · refine R_aload_n (k := 0) rfl rfl rfl ?_
    refine R_getf_r (j := 32) rfl ft_9_76 sh_96 rfl ?_
    refine R_iload_n (k := 1) rfl rfl rfl ?_
    refine R_iald rfl sh_117 ⟨by omega, by omega⟩ ?_
    refine N_any (fun x7 => ?_)
    refine R_goto 26 rfl rfl ?_
    exact R_iret rfl rfl rfl ⟨rfl, _, rfl, trivial⟩
abbrev q_X9_goAll (h : PH) (a0 : Int32) : Option PV → PH → Prop := fun r h' => INV h' ∧ FR [96, 107, 108, 109, 110, 111, 112, 113, 114, 115, 116, 117, 118, 119] h h' ∧ ((h'.1 96 19).toInt = (h.1 96 19).toInt ∧ (h'.1 96 18).toInt = (h.1 96 18).toInt ∧ (h'.1 96 20).toInt = (h.1 96 20).toInt ∧ (h'.1 96 46).toInt = (h.1 96 46).toInt ∧ (h'.1 96 44).toInt = (h.1 96 44).toInt ∧ (h'.1 96 47).toInt = (h.1 96 47).toInt ∧ (h'.1 96 48).toInt = (h.1 96 48).toInt ∧ (h'.1 96 51).toInt = (h.1 96 51).toInt ∧ True) ∧ r = none
set_option maxHeartbeats 4000000 in
set_option maxRecDepth 100000 in
theorem k_X9_goAll (h : PH) (hI : INV h) (a0 : Int32) (h0a : (-1) ≤ a0.toInt ∧ a0.toInt ≤ 59) : CALL d_X9_goAll [.inr (.inr (.inl 96)), .inl a0] h (q_X9_goAll h a0) := by
  show RUN d_X9_goAll 0 [(0, .inr (.inr (.inl 96))), (1, .inl a0)] [] h _
  have fr : FR [96, 107, 108, 109, 110, 111, 112, 113, 114, 115, 116, 117, 118, 119] h h := FR.rf _ _
  have b1 : (0 : Int) ≤ (h.1 96 18).toInt ∧ (h.1 96 18).toInt ≤ 6 := hI.1 96 18
  have b2 : (0 : Int) ≤ (h.1 96 51).toInt ∧ (h.1 96 51).toInt ≤ 720 := hI.1 96 51
  refine R_aload_n (k := 0) rfl rfl rfl ?_
  refine R_callV (v := .inr (.inr (.inl 96))) (As := []) (rest := []) rfl mt_9_i282 pp_X9_startLine (by decide) rfl rfl rfl (Nat.le_of_ble_eq_true rfl) (Nat.le_of_ble_eq_true rfl) ((k_X9_startLine h hI).mono (fun r3 h4 p5 => ?_))
  obtain ⟨hJ, fj, ⟨kp6, kp7, kp8, kp9, kp10, kp11, kp12, kp13, kp14, -⟩, rfl⟩ := p5
  have f15 := fj
  have fr := fr.trans fj (by decide)
  have hI := hJ
  show RUN d_X9_goAll 4 [(0, .inr (.inr (.inl 96))), (1, .inl a0)] [] h4 _
  refine R_iconst 0 rfl rfl ?_
  refine R_istore_n (k := 2) rfl [(2, .inl 0), (0, .inr (.inr (.inl 96))), (1, .inl a0)] rfl rfl (by decide) ?_
  have lp17 : ∀ (n16 : Nat) (h18 : PH) (x20 : Int32), INV h18 → FR [96, 107, 108, 109, 110, 111, 112, 113, 114, 115, 116, 117, 118, 119] h h18 → FR [96, 107, 108, 109, 110, 111, 112, 113, 114, 115, 116, 117, 118, 119] h4 h18 → 0 ≤ x20.toInt ∧ x20.toInt ≤ 60 → (h18.1 96 19).toInt = (h4.1 96 19).toInt → (h18.1 96 18).toInt = (h4.1 96 18).toInt → (h18.1 96 20).toInt = (h4.1 96 20).toInt → (h18.1 96 46).toInt = (h4.1 96 46).toInt → (h18.1 96 44).toInt = (h4.1 96 44).toInt → (h18.1 96 47).toInt = (h4.1 96 47).toInt → (h18.1 96 48).toInt = (h4.1 96 48).toInt → (h18.1 96 51).toInt = (h4.1 96 51).toInt → True → True → True → x20.toInt ≤ a0.toInt + 1 → (60 - x20.toInt).toNat < n16 → RUN d_X9_goAll 6 [(2, .inl x20), (0, .inr (.inr (.inl 96))), (1, .inl a0)] [] h18 (q_X9_goAll h a0) := by
    intro n16
    induction n16 with
    | zero => intro h18 x20 m22 m23 m24 m25 m26 m27 m28 m29 m30 m31 m32 m33 m34 m35 m36 m37 hz; exact absurd hz (Nat.not_lt_zero _)
    | succ n16 ih21 =>
      intro h18 x20 hI fr fl19 m25 m26 m27 m28 m29 m30 m31 m32 m33 m34 m35 m36 m37 hz
      refine R_iload_n (k := 2) rfl rfl rfl ?_
      refine R_iload_n (k := 1) rfl rfl rfl ?_
      refine N_icmp_gt (a := x20.toInt) (b := a0.toInt) 205 rfl rfl rfl rfl (fun c38 => ?_) (fun c38 => ?_)
      · exact R_vret rfl rfl ⟨hI, fr, ⟨by omega, by omega, by omega, by omega, by omega, by omega, by omega, by omega, trivial⟩, rfl⟩
      · refine R_aload_n (k := 0) rfl rfl rfl ?_
        refine R_callV (v := .inr (.inr (.inl 96))) (As := []) (rest := []) rfl mt_9_i285 pp_X9_readyNow (by decide) rfl rfl rfl (Nat.le_of_ble_eq_true rfl) (Nat.le_of_ble_eq_true rfl) ((k_X9_readyNow h18 hI).mono (fun r39 h40 p41 => ?_))
        obtain ⟨rfl, x42, rfl, q43⟩ := p41
        show RUN d_X9_goAll 15 [(2, .inl x20), (0, .inr (.inr (.inl 96))), (1, .inl a0)] [.inl x42] h18 _
        refine R_istore_n (k := 3) rfl [(3, .inl x42), (2, .inl x20), (0, .inr (.inr (.inl 96))), (1, .inl a0)] rfl rfl (by decide) ?_
        refine R_aload_n (k := 0) rfl rfl rfl ?_
        refine R_iload_n (k := 2) rfl rfl rfl ?_
        refine R_aload_n (k := 0) rfl rfl rfl ?_
        refine R_getf_r (j := 21) rfl ft_9_43 sh_96 rfl ?_
        refine R_iload_n (k := 2) rfl rfl rfl ?_
        refine R_zald rfl sh_106 ⟨by omega, by omega⟩ ?_
        refine N_any (fun x44 => ?_)
        refine R_callV (v := .inr (.inr (.inl 96))) (As := [.inl x20, .inl x44]) (rest := []) rfl mt_9_i288 pp_X9_goSecond (by decide) rfl rfl rfl (Nat.le_of_ble_eq_true rfl) (Nat.le_of_ble_eq_true rfl) ((k_X9_goSecond h18 hI x20 x44 (by omega)).mono (fun r45 h46 p47 => ?_))
        obtain ⟨hJ, fj, ⟨kp48, kp49, kp50, kp51, kp52, kp53, kp54, kp55, kp56, kp57, -⟩, rfl⟩ := p47
        have f58 := fj
        have fr := fr.trans fj (by decide)
        have hI := hJ
        have fl19 : FR [96, 107, 108, 109, 110, 111, 112, 113, 114, 115, 116, 117, 118, 119] h4 h46 := fl19.trans fj (by decide)
        show RUN d_X9_goAll 27 [(3, .inl x42), (2, .inl x20), (0, .inr (.inr (.inl 96))), (1, .inl a0)] [] h46 _
        refine R_aload_n (k := 0) rfl rfl rfl ?_
        refine R_getf_r (j := 31) rfl ft_9_73 sh_96 rfl ?_
        refine R_iload_n (k := 2) rfl rfl rfl ?_
        refine R_iconst 0 rfl rfl ?_
        refine K_iast (a := x20.toInt) (lo := (-2147483648)) (hi' := 2147483647) rfl sh_116 rfl ⟨by omega, by omega⟩ hI (by decide) rfl (by decide) fr (by decide) (fun h59 g60 hI fr => ?_)
        have fl19 : FR [96, 107, 108, 109, 110, 111, 112, 113, 114, 115, 116, 117, 118, 119] h4 h59 := by rw [g60]; exact FR_wI _ _ fl19 (by decide)
        have s61 : (h59.1 96 19).toInt = (h46.1 96 19).toInt := by rw [g60, wI_ne _ _ _ (by decide)]
        have s62 : (h59.1 96 18).toInt = (h46.1 96 18).toInt := by rw [g60, wI_ne _ _ _ (by decide)]
        have s63 : (h59.1 96 20).toInt = (h46.1 96 20).toInt := by rw [g60, wI_ne _ _ _ (by decide)]
        have s64 : (h59.1 96 46).toInt = (h46.1 96 46).toInt := by rw [g60, wI_ne _ _ _ (by decide)]
        have s65 : (h59.1 96 44).toInt = (h46.1 96 44).toInt := by rw [g60, wI_ne _ _ _ (by decide)]
        have s66 : (h59.1 96 47).toInt = (h46.1 96 47).toInt := by rw [g60, wI_ne _ _ _ (by decide)]
        have s67 : (h59.1 96 48).toInt = (h46.1 96 48).toInt := by rw [g60, wI_ne _ _ _ (by decide)]
        have s68 : (h59.1 96 51).toInt = (h46.1 96 51).toInt := by rw [g60, wI_ne _ _ _ (by decide)]
        refine R_iconst 0 rfl rfl ?_
        refine R_istore (k := 4) [(4, .inl 0), (3, .inl x42), (2, .inl x20), (0, .inr (.inr (.inl 96))), (1, .inl a0)] rfl rfl (by decide) ?_
        have lp70 : ∀ (n69 : Nat) (h71 : PH) (x73 : Int32), INV h71 → FR [96, 107, 108, 109, 110, 111, 112, 113, 114, 115, 116, 117, 118, 119] h h71 → FR [110, 111, 112, 113, 114, 115, 116, 119] h59 h71 → 0 ≤ x73.toInt ∧ x73.toInt ≤ 6 → (6 - x73.toInt).toNat < n69 → RUN d_X9_goAll 37 [(4, .inl x73), (3, .inl x42), (2, .inl x20), (0, .inr (.inr (.inl 96))), (1, .inl a0)] [] h71 (q_X9_goAll h a0) := by
          intro n69
          induction n69 with
          | zero => intro h71 x73 m75 m76 m77 m78 hz; exact absurd hz (Nat.not_lt_zero _)
          | succ n69 ih74 =>
            intro h71 x73 hI fr fl72 m78 hz
            have s79 : (h71.1 96 19).toInt = (h59.1 96 19).toInt := by rw [(fl72 96 (by decide)).1]
            have s80 : (h71.1 96 18).toInt = (h59.1 96 18).toInt := by rw [(fl72 96 (by decide)).1]
            have s81 : (h71.1 96 20).toInt = (h59.1 96 20).toInt := by rw [(fl72 96 (by decide)).1]
            have s82 : (h71.1 96 46).toInt = (h59.1 96 46).toInt := by rw [(fl72 96 (by decide)).1]
            have s83 : (h71.1 96 44).toInt = (h59.1 96 44).toInt := by rw [(fl72 96 (by decide)).1]
            have s84 : (h71.1 96 47).toInt = (h59.1 96 47).toInt := by rw [(fl72 96 (by decide)).1]
            have s85 : (h71.1 96 48).toInt = (h59.1 96 48).toInt := by rw [(fl72 96 (by decide)).1]
            have s86 : (h71.1 96 51).toInt = (h59.1 96 51).toInt := by rw [(fl72 96 (by decide)).1]
            have fl19 : FR [96, 107, 108, 109, 110, 111, 112, 113, 114, 115, 116, 117, 118, 119] h4 h71 := fl19.trans fl72 (by decide)
            refine R_iload (k := 4) rfl rfl ?_
            refine R_aload_n (k := 0) rfl rfl rfl ?_
            have b87 : (0 : Int) ≤ (h71.1 97 5).toInt ∧ (h71.1 97 5).toInt ≤ 6 := hI.1 97 5
            have b88 : (0 : Int) ≤ (h71.1 97 0).toInt ∧ (h71.1 97 0).toInt ≤ 60 := hI.1 97 0
            have e89 : 0 < (h71.1 97 5).toInt → 1 ≤ (h71.1 97 0).toInt := hI.2.2.2.2.2.1.2.2
            refine R_callV (v := .inr (.inr (.inl 96))) (As := []) (rest := [.inl x73]) rfl mt_9_i133 pp_X9_hands (by decide) rfl rfl rfl (Nat.le_of_ble_eq_true rfl) (Nat.le_of_ble_eq_true rfl) ((k_X9_hands h71 hI).mono (fun r90 h91 p92 => ?_))
            obtain ⟨rfl, x93, rfl, q94⟩ := p92
            show RUN d_X9_goAll 43 [(4, .inl x73), (3, .inl x42), (2, .inl x20), (0, .inr (.inr (.inl 96))), (1, .inl a0)] [.inl x93, .inl x73] h71 _
            refine N_icmp_ge (a := x73.toInt) (b := x93.toInt) 127 rfl rfl rfl rfl (fun c95 => ?_) (fun c95 => ?_)
            · refine R_iconst 0 rfl rfl ?_
              refine R_istore (k := 4) [(4, .inl 0), (3, .inl x42), (2, .inl x20), (0, .inr (.inr (.inl 96))), (1, .inl a0)] rfl rfl (by decide) ?_
              have lp97 : ∀ (n96 : Nat) (h98 : PH) (x100 : Int32), INV h98 → FR [96, 107, 108, 109, 110, 111, 112, 113, 114, 115, 116, 117, 118, 119] h h98 → FR [112, 113, 114, 115, 119] h71 h98 → 0 ≤ x100.toInt ∧ x100.toInt ≤ 6 → (6 - x100.toInt).toNat < n96 → RUN d_X9_goAll 130 [(4, .inl x100), (3, .inl x42), (2, .inl x20), (0, .inr (.inr (.inl 96))), (1, .inl a0)] [] h98 (q_X9_goAll h a0) := by
                intro n96
                induction n96 with
                | zero => intro h98 x100 m102 m103 m104 m105 hz; exact absurd hz (Nat.not_lt_zero _)
                | succ n96 ih101 =>
                  intro h98 x100 hI fr fl99 m105 hz
                  have s106 : (h98.1 96 19).toInt = (h71.1 96 19).toInt := by rw [(fl99 96 (by decide)).1]
                  have s107 : (h98.1 96 18).toInt = (h71.1 96 18).toInt := by rw [(fl99 96 (by decide)).1]
                  have s108 : (h98.1 96 20).toInt = (h71.1 96 20).toInt := by rw [(fl99 96 (by decide)).1]
                  have s109 : (h98.1 96 46).toInt = (h71.1 96 46).toInt := by rw [(fl99 96 (by decide)).1]
                  have s110 : (h98.1 96 44).toInt = (h71.1 96 44).toInt := by rw [(fl99 96 (by decide)).1]
                  have s111 : (h98.1 96 47).toInt = (h71.1 96 47).toInt := by rw [(fl99 96 (by decide)).1]
                  have s112 : (h98.1 96 48).toInt = (h71.1 96 48).toInt := by rw [(fl99 96 (by decide)).1]
                  have s113 : (h98.1 96 51).toInt = (h71.1 96 51).toInt := by rw [(fl99 96 (by decide)).1]
                  have s114 : (h98.1 97 5).toInt = (h71.1 97 5).toInt := by rw [(fl99 97 (by decide)).1]
                  have s115 : (h98.1 97 0).toInt = (h71.1 97 0).toInt := by rw [(fl99 97 (by decide)).1]
                  have fl72 : FR [110, 111, 112, 113, 114, 115, 116, 119] h59 h98 := fl72.trans fl99 (by decide)
                  have fl19 : FR [96, 107, 108, 109, 110, 111, 112, 113, 114, 115, 116, 117, 118, 119] h4 h98 := fl19.trans fl99 (by decide)
                  refine R_iload (k := 4) rfl rfl ?_
                  refine R_bipush 6 rfl rfl ?_
                  refine N_icmp_ge (a := x100.toInt) (b := 6) 157 rfl rfl rfl (by decide) (fun c116 => ?_) (fun c116 => ?_)
                  · refine R_aload_n (k := 0) rfl rfl rfl ?_
                    refine R_getf_r (j := 27) rfl ft_9_61 sh_96 rfl ?_
                    refine R_iload_n (k := 2) rfl rfl rfl ?_
                    refine R_aload_n (k := 0) rfl rfl rfl ?_
                    refine R_getf_r (j := 24) rfl ft_9_52 sh_96 rfl ?_
                    refine R_iconst 0 rfl rfl ?_
                    refine R_iald rfl sh_109 (by decide) ?_
                    show RUN d_X9_goAll 168 [(4, .inl x100), (3, .inl x42), (2, .inl x20), (0, .inr (.inr (.inl 96))), (1, .inl a0)] [.inl (h98.1 109 0), .inl x20, .inr (.inr (.inl 112))] h98 _
                    refine K_iast (a := x20.toInt) (lo := (-2147483648)) (hi' := 2147483647) rfl sh_112 rfl ⟨by omega, by omega⟩ hI (by decide) rfl (i_rng _) fr (by decide) (fun h117 g118 hI fr => ?_)
                    have fl99 : FR [112, 113, 114, 115, 119] h71 h117 := by rw [g118]; exact FR_wI _ _ fl99 (by decide)
                    have fl72 : FR [110, 111, 112, 113, 114, 115, 116, 119] h59 h117 := by rw [g118]; exact FR_wI _ _ fl72 (by decide)
                    have fl19 : FR [96, 107, 108, 109, 110, 111, 112, 113, 114, 115, 116, 117, 118, 119] h4 h117 := by rw [g118]; exact FR_wI _ _ fl19 (by decide)
                    have s119 : (h117.1 96 19).toInt = (h98.1 96 19).toInt := by rw [g118, wI_ne _ _ _ (by decide)]
                    have s120 : (h117.1 96 18).toInt = (h98.1 96 18).toInt := by rw [g118, wI_ne _ _ _ (by decide)]
                    have s121 : (h117.1 96 20).toInt = (h98.1 96 20).toInt := by rw [g118, wI_ne _ _ _ (by decide)]
                    have s122 : (h117.1 96 46).toInt = (h98.1 96 46).toInt := by rw [g118, wI_ne _ _ _ (by decide)]
                    have s123 : (h117.1 96 44).toInt = (h98.1 96 44).toInt := by rw [g118, wI_ne _ _ _ (by decide)]
                    have s124 : (h117.1 96 47).toInt = (h98.1 96 47).toInt := by rw [g118, wI_ne _ _ _ (by decide)]
                    have s125 : (h117.1 96 48).toInt = (h98.1 96 48).toInt := by rw [g118, wI_ne _ _ _ (by decide)]
                    have s126 : (h117.1 96 51).toInt = (h98.1 96 51).toInt := by rw [g118, wI_ne _ _ _ (by decide)]
                    have s127 : (h117.1 97 5).toInt = (h98.1 97 5).toInt := by rw [g118, wI_ne _ _ _ (by decide)]
                    have s128 : (h117.1 97 0).toInt = (h98.1 97 0).toInt := by rw [g118, wI_ne _ _ _ (by decide)]
                    have s129 : (h117.1 109 0).toInt = (h98.1 109 0).toInt := by rw [g118, wI_ne _ _ _ (by decide)]
                    refine R_aload_n (k := 0) rfl rfl rfl ?_
                    refine R_getf_r (j := 28) rfl ft_9_64 sh_96 rfl ?_
                    refine R_iload_n (k := 2) rfl rfl rfl ?_
                    refine R_aload_n (k := 0) rfl rfl rfl ?_
                    refine R_getf_i (j := 34) rfl ft_9_262 sh_96 rfl ?_
                    refine K_iast (a := x20.toInt) (lo := (-2147483648)) (hi' := 2147483647) rfl sh_113 rfl ⟨by omega, by omega⟩ hI (by decide) rfl (i_rng _) fr (by decide) (fun h130 g131 hI fr => ?_)
                    have fl99 : FR [112, 113, 114, 115, 119] h71 h130 := by rw [g131]; exact FR_wI _ _ fl99 (by decide)
                    have fl72 : FR [110, 111, 112, 113, 114, 115, 116, 119] h59 h130 := by rw [g131]; exact FR_wI _ _ fl72 (by decide)
                    have fl19 : FR [96, 107, 108, 109, 110, 111, 112, 113, 114, 115, 116, 117, 118, 119] h4 h130 := by rw [g131]; exact FR_wI _ _ fl19 (by decide)
                    have s132 : (h130.1 96 19).toInt = (h117.1 96 19).toInt := by rw [g131, wI_ne _ _ _ (by decide)]
                    have s133 : (h130.1 96 18).toInt = (h117.1 96 18).toInt := by rw [g131, wI_ne _ _ _ (by decide)]
                    have s134 : (h130.1 96 20).toInt = (h117.1 96 20).toInt := by rw [g131, wI_ne _ _ _ (by decide)]
                    have s135 : (h130.1 96 46).toInt = (h117.1 96 46).toInt := by rw [g131, wI_ne _ _ _ (by decide)]
                    have s136 : (h130.1 96 44).toInt = (h117.1 96 44).toInt := by rw [g131, wI_ne _ _ _ (by decide)]
                    have s137 : (h130.1 96 47).toInt = (h117.1 96 47).toInt := by rw [g131, wI_ne _ _ _ (by decide)]
                    have s138 : (h130.1 96 48).toInt = (h117.1 96 48).toInt := by rw [g131, wI_ne _ _ _ (by decide)]
                    have s139 : (h130.1 96 51).toInt = (h117.1 96 51).toInt := by rw [g131, wI_ne _ _ _ (by decide)]
                    have s140 : (h130.1 97 5).toInt = (h117.1 97 5).toInt := by rw [g131, wI_ne _ _ _ (by decide)]
                    have s141 : (h130.1 97 0).toInt = (h117.1 97 0).toInt := by rw [g131, wI_ne _ _ _ (by decide)]
                    have s142 : (h130.1 109 0).toInt = (h117.1 109 0).toInt := by rw [g131, wI_ne _ _ _ (by decide)]
                    have s143 : (h130.1 96 34).toInt = (h117.1 96 34).toInt := by rw [g131, wI_ne _ _ _ (by decide)]
                    refine R_aload_n (k := 0) rfl rfl rfl ?_
                    refine R_getf_r (j := 29) rfl ft_9_67 sh_96 rfl ?_
                    refine R_iload_n (k := 2) rfl rfl rfl ?_
                    refine R_aload_n (k := 0) rfl rfl rfl ?_
                    refine R_getf_i (j := 35) rfl ft_9_265 sh_96 rfl ?_
                    refine K_iast (a := x20.toInt) (lo := (-2147483648)) (hi' := 2147483647) rfl sh_114 rfl ⟨by omega, by omega⟩ hI (by decide) rfl (i_rng _) fr (by decide) (fun h144 g145 hI fr => ?_)
                    have fl99 : FR [112, 113, 114, 115, 119] h71 h144 := by rw [g145]; exact FR_wI _ _ fl99 (by decide)
                    have fl72 : FR [110, 111, 112, 113, 114, 115, 116, 119] h59 h144 := by rw [g145]; exact FR_wI _ _ fl72 (by decide)
                    have fl19 : FR [96, 107, 108, 109, 110, 111, 112, 113, 114, 115, 116, 117, 118, 119] h4 h144 := by rw [g145]; exact FR_wI _ _ fl19 (by decide)
                    have s146 : (h144.1 96 19).toInt = (h130.1 96 19).toInt := by rw [g145, wI_ne _ _ _ (by decide)]
                    have s147 : (h144.1 96 18).toInt = (h130.1 96 18).toInt := by rw [g145, wI_ne _ _ _ (by decide)]
                    have s148 : (h144.1 96 20).toInt = (h130.1 96 20).toInt := by rw [g145, wI_ne _ _ _ (by decide)]
                    have s149 : (h144.1 96 46).toInt = (h130.1 96 46).toInt := by rw [g145, wI_ne _ _ _ (by decide)]
                    have s150 : (h144.1 96 44).toInt = (h130.1 96 44).toInt := by rw [g145, wI_ne _ _ _ (by decide)]
                    have s151 : (h144.1 96 47).toInt = (h130.1 96 47).toInt := by rw [g145, wI_ne _ _ _ (by decide)]
                    have s152 : (h144.1 96 48).toInt = (h130.1 96 48).toInt := by rw [g145, wI_ne _ _ _ (by decide)]
                    have s153 : (h144.1 96 51).toInt = (h130.1 96 51).toInt := by rw [g145, wI_ne _ _ _ (by decide)]
                    have s154 : (h144.1 97 5).toInt = (h130.1 97 5).toInt := by rw [g145, wI_ne _ _ _ (by decide)]
                    have s155 : (h144.1 97 0).toInt = (h130.1 97 0).toInt := by rw [g145, wI_ne _ _ _ (by decide)]
                    have s156 : (h144.1 109 0).toInt = (h130.1 109 0).toInt := by rw [g145, wI_ne _ _ _ (by decide)]
                    have s157 : (h144.1 96 34).toInt = (h130.1 96 34).toInt := by rw [g145, wI_ne _ _ _ (by decide)]
                    have s158 : (h144.1 96 35).toInt = (h130.1 96 35).toInt := by rw [g145, wI_ne _ _ _ (by decide)]
                    refine R_aload_n (k := 0) rfl rfl rfl ?_
                    refine R_getf_r (j := 30) rfl ft_9_70 sh_96 rfl ?_
                    refine R_iload_n (k := 2) rfl rfl rfl ?_
                    refine R_aload_n (k := 0) rfl rfl rfl ?_
                    refine R_getf_i (j := 36) rfl ft_9_268 sh_96 rfl ?_
                    refine K_iast (a := x20.toInt) (lo := (-2147483648)) (hi' := 2147483647) rfl sh_115 rfl ⟨by omega, by omega⟩ hI (by decide) rfl (i_rng _) fr (by decide) (fun h159 g160 hI fr => ?_)
                    have fl99 : FR [112, 113, 114, 115, 119] h71 h159 := by rw [g160]; exact FR_wI _ _ fl99 (by decide)
                    have fl72 : FR [110, 111, 112, 113, 114, 115, 116, 119] h59 h159 := by rw [g160]; exact FR_wI _ _ fl72 (by decide)
                    have fl19 : FR [96, 107, 108, 109, 110, 111, 112, 113, 114, 115, 116, 117, 118, 119] h4 h159 := by rw [g160]; exact FR_wI _ _ fl19 (by decide)
                    have s161 : (h159.1 96 19).toInt = (h144.1 96 19).toInt := by rw [g160, wI_ne _ _ _ (by decide)]
                    have s162 : (h159.1 96 18).toInt = (h144.1 96 18).toInt := by rw [g160, wI_ne _ _ _ (by decide)]
                    have s163 : (h159.1 96 20).toInt = (h144.1 96 20).toInt := by rw [g160, wI_ne _ _ _ (by decide)]
                    have s164 : (h159.1 96 46).toInt = (h144.1 96 46).toInt := by rw [g160, wI_ne _ _ _ (by decide)]
                    have s165 : (h159.1 96 44).toInt = (h144.1 96 44).toInt := by rw [g160, wI_ne _ _ _ (by decide)]
                    have s166 : (h159.1 96 47).toInt = (h144.1 96 47).toInt := by rw [g160, wI_ne _ _ _ (by decide)]
                    have s167 : (h159.1 96 48).toInt = (h144.1 96 48).toInt := by rw [g160, wI_ne _ _ _ (by decide)]
                    have s168 : (h159.1 96 51).toInt = (h144.1 96 51).toInt := by rw [g160, wI_ne _ _ _ (by decide)]
                    have s169 : (h159.1 97 5).toInt = (h144.1 97 5).toInt := by rw [g160, wI_ne _ _ _ (by decide)]
                    have s170 : (h159.1 97 0).toInt = (h144.1 97 0).toInt := by rw [g160, wI_ne _ _ _ (by decide)]
                    have s171 : (h159.1 109 0).toInt = (h144.1 109 0).toInt := by rw [g160, wI_ne _ _ _ (by decide)]
                    have s172 : (h159.1 96 34).toInt = (h144.1 96 34).toInt := by rw [g160, wI_ne _ _ _ (by decide)]
                    have s173 : (h159.1 96 35).toInt = (h144.1 96 35).toInt := by rw [g160, wI_ne _ _ _ (by decide)]
                    have s174 : (h159.1 96 36).toInt = (h144.1 96 36).toInt := by rw [g160, wI_ne _ _ _ (by decide)]
                    refine N_iinc (a := x20.toInt) (c := 1) (fun w => [(2, .inl w), (4, .inl x100), (3, .inl x42), (0, .inr (.inr (.inl 96))), (1, .inl a0)]) rfl rfl (fun _ => rfl) (by decide) rfl (by decide) (by omega) (fun x175 q176 => ?_)
                    refine R_goto 6 rfl rfl ?_
                    exact RUN_weak (psub_cons rfl (psub_cons rfl (psub_cons rfl (psub_nil _)))) (ih21 h159 x175 hI fr fl19 (by omega) (by omega) (by omega) (by omega) (by omega) (by omega) (by omega) (by omega) (by omega) trivial trivial trivial (by omega) (by omega))
                  · refine R_aload_n (k := 0) rfl rfl rfl ?_
                    refine R_getf_r (j := 37) rfl ft_9_82 sh_96 rfl ?_
                    refine R_iload (k := 4) rfl rfl ?_
                    refine R_aload_n (k := 0) rfl rfl rfl ?_
                    refine R_getf_r (j := 32) rfl ft_9_76 sh_96 rfl ?_
                    refine R_iload (k := 4) rfl rfl ?_
                    refine R_iald rfl sh_117 ⟨by omega, by omega⟩ ?_
                    refine N_any (fun x177 => ?_)
                    refine K_iast (a := x100.toInt) (lo := (-2147483648)) (hi' := 2147483647) rfl sh_119 rfl ⟨by omega, by omega⟩ hI (by decide) rfl (i_rng _) fr (by decide) (fun h178 g179 hI fr => ?_)
                    have fl99 : FR [112, 113, 114, 115, 119] h71 h178 := by rw [g179]; exact FR_wI _ _ fl99 (by decide)
                    have fl72 : FR [110, 111, 112, 113, 114, 115, 116, 119] h59 h178 := by rw [g179]; exact FR_wI _ _ fl72 (by decide)
                    have fl19 : FR [96, 107, 108, 109, 110, 111, 112, 113, 114, 115, 116, 117, 118, 119] h4 h178 := by rw [g179]; exact FR_wI _ _ fl19 (by decide)
                    have s180 : (h178.1 96 19).toInt = (h98.1 96 19).toInt := by rw [g179, wI_ne _ _ _ (by decide)]
                    have s181 : (h178.1 96 18).toInt = (h98.1 96 18).toInt := by rw [g179, wI_ne _ _ _ (by decide)]
                    have s182 : (h178.1 96 20).toInt = (h98.1 96 20).toInt := by rw [g179, wI_ne _ _ _ (by decide)]
                    have s183 : (h178.1 96 46).toInt = (h98.1 96 46).toInt := by rw [g179, wI_ne _ _ _ (by decide)]
                    have s184 : (h178.1 96 44).toInt = (h98.1 96 44).toInt := by rw [g179, wI_ne _ _ _ (by decide)]
                    have s185 : (h178.1 96 47).toInt = (h98.1 96 47).toInt := by rw [g179, wI_ne _ _ _ (by decide)]
                    have s186 : (h178.1 96 48).toInt = (h98.1 96 48).toInt := by rw [g179, wI_ne _ _ _ (by decide)]
                    have s187 : (h178.1 96 51).toInt = (h98.1 96 51).toInt := by rw [g179, wI_ne _ _ _ (by decide)]
                    have s188 : (h178.1 97 5).toInt = (h98.1 97 5).toInt := by rw [g179, wI_ne _ _ _ (by decide)]
                    have s189 : (h178.1 97 0).toInt = (h98.1 97 0).toInt := by rw [g179, wI_ne _ _ _ (by decide)]
                    refine N_iinc (a := x100.toInt) (c := 1) (fun w => [(4, .inl w), (3, .inl x42), (2, .inl x20), (0, .inr (.inr (.inl 96))), (1, .inl a0)]) rfl rfl (fun _ => rfl) (by decide) rfl (by decide) (by omega) (fun x190 q191 => ?_)
                    refine R_goto 130 rfl rfl ?_
                    exact RUN_weak (psub_cons rfl (psub_cons rfl (psub_cons rfl (psub_cons rfl (psub_cons rfl (psub_nil _)))))) (ih101 h178 x190 hI fr fl99 (by omega) (by omega))
              exact lp97 _ h71 (0 : Int32) hI fr (FR.rf _ _) (by decide) (Nat.lt_succ_self _)
            · refine R_aload_n (k := 0) rfl rfl rfl ?_
              refine R_getf_r (j := 25) rfl ft_9_55 sh_96 rfl ?_
              refine R_bipush 6 rfl rfl ?_
              refine R_iload_n (k := 2) rfl rfl rfl ?_
              refine N_imul (a := 6) (b := x20.toInt) rfl (by decide) rfl (by omega) (fun x192 q193 => ?_)
              refine R_iload (k := 4) rfl rfl ?_
              refine N_iadd (a := x192.toInt) (b := x73.toInt) rfl rfl rfl (by omega) (fun x194 q195 => ?_)
              refine R_aload_n (k := 0) rfl rfl rfl ?_
              refine R_getf_r (j := 22) rfl ft_9_46 sh_96 rfl ?_
              refine R_iload (k := 4) rfl rfl ?_
              refine R_iald rfl sh_107 ⟨by omega, by omega⟩ ?_
              refine N_any (fun x196 => ?_)
              refine K_iast (a := x194.toInt) (lo := (-2147483648)) (hi' := 2147483647) rfl sh_110 rfl ⟨by omega, by omega⟩ hI (by decide) rfl (i_rng _) fr (by decide) (fun h197 g198 hI fr => ?_)
              have fl72 : FR [110, 111, 112, 113, 114, 115, 116, 119] h59 h197 := by rw [g198]; exact FR_wI _ _ fl72 (by decide)
              have fl19 : FR [96, 107, 108, 109, 110, 111, 112, 113, 114, 115, 116, 117, 118, 119] h4 h197 := by rw [g198]; exact FR_wI _ _ fl19 (by decide)
              have s199 : (h197.1 96 19).toInt = (h71.1 96 19).toInt := by rw [g198, wI_ne _ _ _ (by decide)]
              have s200 : (h197.1 96 18).toInt = (h71.1 96 18).toInt := by rw [g198, wI_ne _ _ _ (by decide)]
              have s201 : (h197.1 96 20).toInt = (h71.1 96 20).toInt := by rw [g198, wI_ne _ _ _ (by decide)]
              have s202 : (h197.1 96 46).toInt = (h71.1 96 46).toInt := by rw [g198, wI_ne _ _ _ (by decide)]
              have s203 : (h197.1 96 44).toInt = (h71.1 96 44).toInt := by rw [g198, wI_ne _ _ _ (by decide)]
              have s204 : (h197.1 96 47).toInt = (h71.1 96 47).toInt := by rw [g198, wI_ne _ _ _ (by decide)]
              have s205 : (h197.1 96 48).toInt = (h71.1 96 48).toInt := by rw [g198, wI_ne _ _ _ (by decide)]
              have s206 : (h197.1 96 51).toInt = (h71.1 96 51).toInt := by rw [g198, wI_ne _ _ _ (by decide)]
              have s207 : (h197.1 97 5).toInt = (h71.1 97 5).toInt := by rw [g198, wI_ne _ _ _ (by decide)]
              have s208 : (h197.1 97 0).toInt = (h71.1 97 0).toInt := by rw [g198, wI_ne _ _ _ (by decide)]
              refine R_aload_n (k := 0) rfl rfl rfl ?_
              refine R_getf_r (j := 26) rfl ft_9_58 sh_96 rfl ?_
              refine R_bipush 6 rfl rfl ?_
              refine R_iload_n (k := 2) rfl rfl rfl ?_
              refine N_imul (a := 6) (b := x20.toInt) rfl (by decide) rfl (by omega) (fun x209 q210 => ?_)
              refine R_iload (k := 4) rfl rfl ?_
              refine N_iadd (a := x209.toInt) (b := x73.toInt) rfl rfl rfl (by omega) (fun x211 q212 => ?_)
              refine R_aload_n (k := 0) rfl rfl rfl ?_
              refine R_getf_r (j := 23) rfl ft_9_49 sh_96 rfl ?_
              refine R_iload (k := 4) rfl rfl ?_
              refine R_iald rfl sh_108 ⟨by omega, by omega⟩ ?_
              refine N_any (fun x213 => ?_)
              refine K_iast (a := x211.toInt) (lo := (-2147483648)) (hi' := 2147483647) rfl sh_111 rfl ⟨by omega, by omega⟩ hI (by decide) rfl (i_rng _) fr (by decide) (fun h214 g215 hI fr => ?_)
              have fl72 : FR [110, 111, 112, 113, 114, 115, 116, 119] h59 h214 := by rw [g215]; exact FR_wI _ _ fl72 (by decide)
              have fl19 : FR [96, 107, 108, 109, 110, 111, 112, 113, 114, 115, 116, 117, 118, 119] h4 h214 := by rw [g215]; exact FR_wI _ _ fl19 (by decide)
              have s216 : (h214.1 96 19).toInt = (h197.1 96 19).toInt := by rw [g215, wI_ne _ _ _ (by decide)]
              have s217 : (h214.1 96 18).toInt = (h197.1 96 18).toInt := by rw [g215, wI_ne _ _ _ (by decide)]
              have s218 : (h214.1 96 20).toInt = (h197.1 96 20).toInt := by rw [g215, wI_ne _ _ _ (by decide)]
              have s219 : (h214.1 96 46).toInt = (h197.1 96 46).toInt := by rw [g215, wI_ne _ _ _ (by decide)]
              have s220 : (h214.1 96 44).toInt = (h197.1 96 44).toInt := by rw [g215, wI_ne _ _ _ (by decide)]
              have s221 : (h214.1 96 47).toInt = (h197.1 96 47).toInt := by rw [g215, wI_ne _ _ _ (by decide)]
              have s222 : (h214.1 96 48).toInt = (h197.1 96 48).toInt := by rw [g215, wI_ne _ _ _ (by decide)]
              have s223 : (h214.1 96 51).toInt = (h197.1 96 51).toInt := by rw [g215, wI_ne _ _ _ (by decide)]
              have s224 : (h214.1 97 5).toInt = (h197.1 97 5).toInt := by rw [g215, wI_ne _ _ _ (by decide)]
              have s225 : (h214.1 97 0).toInt = (h197.1 97 0).toInt := by rw [g215, wI_ne _ _ _ (by decide)]
              refine R_aload_n (k := 0) rfl rfl rfl ?_
              refine R_getf_r (j := 31) rfl ft_9_73 sh_96 rfl ?_
              refine R_iload_n (k := 2) rfl rfl rfl ?_
              refine R_dup2 rfl ?_
              refine R_iald rfl sh_116 ⟨by omega, by omega⟩ ?_
              refine N_any (fun x226 => ?_)
              refine R_iload_n (k := 3) rfl rfl rfl ?_
              refine R_iload (k := 4) rfl rfl ?_
              refine R_callS (As := [.inl x42, .inl x73]) (rest := [.inl x226, .inl x20, .inr (.inr (.inl 116))]) rfl mt_9_i292 (by decide) pp_X9_bit (by decide) rfl rfl (Nat.le_of_ble_eq_true rfl) (Nat.le_of_ble_eq_true rfl) ((k_X9_bit h214 hI x42 x73 (by omega)).mono (fun r227 h228 p229 => ?_))
              obtain ⟨rfl, x230, rfl, q231⟩ := p229
              show RUN d_X9_goAll 97 [(4, .inl x73), (3, .inl x42), (2, .inl x20), (0, .inr (.inr (.inl 96))), (1, .inl a0)] [.inl x230, .inl x226, .inl x20, .inr (.inr (.inl 116))] h214 _
              refine R_iconst 1 rfl rfl ?_
              refine N_icmp_ne (a := x230.toInt) (b := 1) 118 rfl rfl rfl (by decide) (fun c232 => ?_) (fun c232 => ?_)
              · refine R_iconst 0 rfl rfl ?_
                refine R_ior rfl ?_
                refine N_any (fun x233 => ?_)
                refine K_iast (a := x20.toInt) (lo := (-2147483648)) (hi' := 2147483647) rfl sh_116 rfl ⟨by omega, by omega⟩ hI (by decide) rfl (i_rng _) fr (by decide) (fun h234 g235 hI fr => ?_)
                have fl72 : FR [110, 111, 112, 113, 114, 115, 116, 119] h59 h234 := by rw [g235]; exact FR_wI _ _ fl72 (by decide)
                have fl19 : FR [96, 107, 108, 109, 110, 111, 112, 113, 114, 115, 116, 117, 118, 119] h4 h234 := by rw [g235]; exact FR_wI _ _ fl19 (by decide)
                have s236 : (h234.1 96 19).toInt = (h214.1 96 19).toInt := by rw [g235, wI_ne _ _ _ (by decide)]
                have s237 : (h234.1 96 18).toInt = (h214.1 96 18).toInt := by rw [g235, wI_ne _ _ _ (by decide)]
                have s238 : (h234.1 96 20).toInt = (h214.1 96 20).toInt := by rw [g235, wI_ne _ _ _ (by decide)]
                have s239 : (h234.1 96 46).toInt = (h214.1 96 46).toInt := by rw [g235, wI_ne _ _ _ (by decide)]
                have s240 : (h234.1 96 44).toInt = (h214.1 96 44).toInt := by rw [g235, wI_ne _ _ _ (by decide)]
                have s241 : (h234.1 96 47).toInt = (h214.1 96 47).toInt := by rw [g235, wI_ne _ _ _ (by decide)]
                have s242 : (h234.1 96 48).toInt = (h214.1 96 48).toInt := by rw [g235, wI_ne _ _ _ (by decide)]
                have s243 : (h234.1 96 51).toInt = (h214.1 96 51).toInt := by rw [g235, wI_ne _ _ _ (by decide)]
                have s244 : (h234.1 97 5).toInt = (h214.1 97 5).toInt := by rw [g235, wI_ne _ _ _ (by decide)]
                have s245 : (h234.1 97 0).toInt = (h214.1 97 0).toInt := by rw [g235, wI_ne _ _ _ (by decide)]
                refine N_iinc (a := x73.toInt) (c := 1) (fun w => [(4, .inl w), (3, .inl x42), (2, .inl x20), (0, .inr (.inr (.inl 96))), (1, .inl a0)]) rfl rfl (fun _ => rfl) (by decide) rfl (by decide) (by omega) (fun x246 q247 => ?_)
                refine R_goto 37 rfl rfl ?_
                exact RUN_weak (psub_cons rfl (psub_cons rfl (psub_cons rfl (psub_cons rfl (psub_cons rfl (psub_nil _)))))) (ih74 h234 x246 hI fr fl72 (by omega) (by omega))
              · refine R_aload_n (k := 0) rfl rfl rfl ?_
                refine R_iload (k := 4) rfl rfl ?_
                refine R_iload_n (k := 2) rfl rfl rfl ?_
                refine R_callV (v := .inr (.inr (.inl 96))) (As := [.inl x73, .inl x20]) (rest := [.inl x226, .inl x20, .inr (.inr (.inl 116))]) rfl mt_9_i295 pp_X9_passedIn (by decide) rfl rfl rfl (Nat.le_of_ble_eq_true rfl) (Nat.le_of_ble_eq_true rfl) ((k_X9_passedIn h214 hI x73 x20 (by omega) (by omega)).mono (fun r248 h249 p250 => ?_))
                obtain ⟨rfl, x251, rfl, q252⟩ := p250
                show RUN d_X9_goAll 108 [(4, .inl x73), (3, .inl x42), (2, .inl x20), (0, .inr (.inr (.inl 96))), (1, .inl a0)] [.inl x251, .inl x226, .inl x20, .inr (.inr (.inl 116))] h214 _
                refine N_if_ne (a := x251.toInt) 118 rfl rfl rfl (fun c253 => ?_) (fun c253 => ?_)
                · refine R_iconst 0 rfl rfl ?_
                  refine R_ior rfl ?_
                  refine N_any (fun x254 => ?_)
                  refine K_iast (a := x20.toInt) (lo := (-2147483648)) (hi' := 2147483647) rfl sh_116 rfl ⟨by omega, by omega⟩ hI (by decide) rfl (i_rng _) fr (by decide) (fun h255 g256 hI fr => ?_)
                  have fl72 : FR [110, 111, 112, 113, 114, 115, 116, 119] h59 h255 := by rw [g256]; exact FR_wI _ _ fl72 (by decide)
                  have fl19 : FR [96, 107, 108, 109, 110, 111, 112, 113, 114, 115, 116, 117, 118, 119] h4 h255 := by rw [g256]; exact FR_wI _ _ fl19 (by decide)
                  have s257 : (h255.1 96 19).toInt = (h214.1 96 19).toInt := by rw [g256, wI_ne _ _ _ (by decide)]
                  have s258 : (h255.1 96 18).toInt = (h214.1 96 18).toInt := by rw [g256, wI_ne _ _ _ (by decide)]
                  have s259 : (h255.1 96 20).toInt = (h214.1 96 20).toInt := by rw [g256, wI_ne _ _ _ (by decide)]
                  have s260 : (h255.1 96 46).toInt = (h214.1 96 46).toInt := by rw [g256, wI_ne _ _ _ (by decide)]
                  have s261 : (h255.1 96 44).toInt = (h214.1 96 44).toInt := by rw [g256, wI_ne _ _ _ (by decide)]
                  have s262 : (h255.1 96 47).toInt = (h214.1 96 47).toInt := by rw [g256, wI_ne _ _ _ (by decide)]
                  have s263 : (h255.1 96 48).toInt = (h214.1 96 48).toInt := by rw [g256, wI_ne _ _ _ (by decide)]
                  have s264 : (h255.1 96 51).toInt = (h214.1 96 51).toInt := by rw [g256, wI_ne _ _ _ (by decide)]
                  have s265 : (h255.1 97 5).toInt = (h214.1 97 5).toInt := by rw [g256, wI_ne _ _ _ (by decide)]
                  have s266 : (h255.1 97 0).toInt = (h214.1 97 0).toInt := by rw [g256, wI_ne _ _ _ (by decide)]
                  refine N_iinc (a := x73.toInt) (c := 1) (fun w => [(4, .inl w), (3, .inl x42), (2, .inl x20), (0, .inr (.inr (.inl 96))), (1, .inl a0)]) rfl rfl (fun _ => rfl) (by decide) rfl (by decide) (by omega) (fun x267 q268 => ?_)
                  refine R_goto 37 rfl rfl ?_
                  exact RUN_weak (psub_cons rfl (psub_cons rfl (psub_cons rfl (psub_cons rfl (psub_cons rfl (psub_nil _)))))) (ih74 h255 x267 hI fr fl72 (by omega) (by omega))
                · refine R_iconst 1 rfl rfl ?_
                  refine R_iload (k := 4) rfl rfl ?_
                  refine N_ishl1 (b := x73.toInt) rfl rfl (by omega) (fun x269 q270 => ?_)
                  refine R_goto 119 rfl rfl ?_
                  refine R_ior rfl ?_
                  refine N_any (fun x271 => ?_)
                  refine K_iast (a := x20.toInt) (lo := (-2147483648)) (hi' := 2147483647) rfl sh_116 rfl ⟨by omega, by omega⟩ hI (by decide) rfl (i_rng _) fr (by decide) (fun h272 g273 hI fr => ?_)
                  have fl72 : FR [110, 111, 112, 113, 114, 115, 116, 119] h59 h272 := by rw [g273]; exact FR_wI _ _ fl72 (by decide)
                  have fl19 : FR [96, 107, 108, 109, 110, 111, 112, 113, 114, 115, 116, 117, 118, 119] h4 h272 := by rw [g273]; exact FR_wI _ _ fl19 (by decide)
                  have s274 : (h272.1 96 19).toInt = (h214.1 96 19).toInt := by rw [g273, wI_ne _ _ _ (by decide)]
                  have s275 : (h272.1 96 18).toInt = (h214.1 96 18).toInt := by rw [g273, wI_ne _ _ _ (by decide)]
                  have s276 : (h272.1 96 20).toInt = (h214.1 96 20).toInt := by rw [g273, wI_ne _ _ _ (by decide)]
                  have s277 : (h272.1 96 46).toInt = (h214.1 96 46).toInt := by rw [g273, wI_ne _ _ _ (by decide)]
                  have s278 : (h272.1 96 44).toInt = (h214.1 96 44).toInt := by rw [g273, wI_ne _ _ _ (by decide)]
                  have s279 : (h272.1 96 47).toInt = (h214.1 96 47).toInt := by rw [g273, wI_ne _ _ _ (by decide)]
                  have s280 : (h272.1 96 48).toInt = (h214.1 96 48).toInt := by rw [g273, wI_ne _ _ _ (by decide)]
                  have s281 : (h272.1 96 51).toInt = (h214.1 96 51).toInt := by rw [g273, wI_ne _ _ _ (by decide)]
                  have s282 : (h272.1 97 5).toInt = (h214.1 97 5).toInt := by rw [g273, wI_ne _ _ _ (by decide)]
                  have s283 : (h272.1 97 0).toInt = (h214.1 97 0).toInt := by rw [g273, wI_ne _ _ _ (by decide)]
                  refine N_iinc (a := x73.toInt) (c := 1) (fun w => [(4, .inl w), (3, .inl x42), (2, .inl x20), (0, .inr (.inr (.inl 96))), (1, .inl a0)]) rfl rfl (fun _ => rfl) (by decide) rfl (by decide) (by omega) (fun x284 q285 => ?_)
                  refine R_goto 37 rfl rfl ?_
                  exact RUN_weak (psub_cons rfl (psub_cons rfl (psub_cons rfl (psub_cons rfl (psub_cons rfl (psub_nil _)))))) (ih74 h272 x284 hI fr fl72 (by omega) (by omega))
        exact lp70 _ h59 (0 : Int32) hI fr (FR.rf _ _) (by decide) (Nat.lt_succ_self _)
  have k286 : (0 : Int32).toInt = 0 := by decide
  exact lp17 _ h4 (0 : Int32) hI fr (FR.rf _ _) (by decide) rfl rfl rfl rfl rfl rfl rfl rfl trivial trivial trivial (by omega) (Nat.lt_succ_self _)
abbrev q_X9_asksBrigade (h : PH)  : Option PV → PH → Prop := fun r h' => INV h' ∧ FR [96, 103, 104, 105, 106, 107, 108, 109, 110, 111, 112, 113, 114, 115, 116, 117, 118, 119] h h' ∧ (True) ∧ ∃ z : Int32, r = some (.inl z) ∧ ((z.toInt = 0 ∧ (h.1 97 10).toInt ≤ 0) ∨ (z.toInt = 1 ∧ 1 ≤ (h.1 97 0).toInt ∧ (h.1 97 0).toInt ≤ 60 ∧ 1 ≤ (h.1 97 10).toInt))
set_option maxHeartbeats 4000000 in
set_option maxRecDepth 100000 in
theorem k_X9_asksBrigade (h : PH) (hI : INV h)  : CALL d_X9_asksBrigade [.inr (.inr (.inl 96))] h (q_X9_asksBrigade h) := by
  show RUN d_X9_asksBrigade 0 [(0, .inr (.inr (.inl 96)))] [] h _
  have fr : FR [96, 103, 104, 105, 106, 107, 108, 109, 110, 111, 112, 113, 114, 115, 116, 117, 118, 119] h h := FR.rf _ _
  refine R_aload_n (k := 0) rfl rfl rfl ?_
  refine R_callV (v := .inr (.inr (.inl 96))) (As := []) (rest := []) rfl mt_9_i298 pp_X9_asItIs (by decide) rfl rfl rfl (Nat.le_of_ble_eq_true rfl) (Nat.le_of_ble_eq_true rfl) ((k_X9_asItIs h hI).mono (fun r1 h2 p3 => ?_))
  obtain ⟨hJ, fj, ⟨kp4, -⟩, rfl⟩ := p3
  have f5 := fj
  have fr := fr.trans fj (by decide)
  have hI := hJ
  show RUN d_X9_asksBrigade 4 [(0, .inr (.inr (.inl 96)))] [] h2 _
  refine R_aload_n (k := 0) rfl rfl rfl ?_
  have b6 : (0 : Int) ≤ (h2.1 97 0).toInt ∧ (h2.1 97 0).toInt ≤ 60 := hI.1 97 0
  have e7 : 0 < (h2.1 97 10).toInt → 1 ≤ (h2.1 97 0).toInt := hI.2.2.2.2.2.1.2.1
  refine R_callV (v := .inr (.inr (.inl 96))) (As := []) (rest := []) rfl mt_9_i301 pp_X9_isBrigade (by decide) rfl rfl rfl (Nat.le_of_ble_eq_true rfl) (Nat.le_of_ble_eq_true rfl) ((k_X9_isBrigade h2 hI).mono (fun r8 h9 p10 => ?_))
  obtain ⟨rfl, x11, rfl, q12 | q12⟩ := p10
  · show RUN d_X9_asksBrigade 8 [(0, .inr (.inr (.inl 96)))] [.inl x11] h2 _
    refine N_if_eq (a := x11.toInt) 19 rfl rfl rfl (fun c13 => ?_) (fun c13 => ?_)
    · refine R_aload_n (k := 0) rfl rfl rfl ?_
      refine R_callV (v := .inr (.inr (.inl 96))) (As := []) (rest := []) rfl mt_9_i301 pp_X9_isBrigade (by decide) rfl rfl rfl (Nat.le_of_ble_eq_true rfl) (Nat.le_of_ble_eq_true rfl) ((k_X9_isBrigade h2 hI).mono (fun r14 h15 p16 => ?_))
      obtain ⟨rfl, x17, rfl, q18 | q18⟩ := p16
      · show RUN d_X9_asksBrigade 23 [(0, .inr (.inr (.inl 96)))] [.inl x17] h2 _
        have s19 : (h2.1 97 0).toInt = (h.1 97 0).toInt := by rw [(fr 97 (by decide)).1]
        have s20 : (h2.1 97 10).toInt = (h.1 97 10).toInt := by rw [(fr 97 (by decide)).1]
        exact R_iret rfl rfl (nar_z (by omega)) ⟨hI, fr, trivial, _, rfl, by omega⟩
      · exfalso; omega
    · exfalso; omega
  · show RUN d_X9_asksBrigade 8 [(0, .inr (.inr (.inl 96)))] [.inl x11] h2 _
    refine N_if_eq (a := x11.toInt) 19 rfl rfl rfl (fun c21 => ?_) (fun c21 => ?_)
    · exfalso; omega
    · refine R_aload_n (k := 0) rfl rfl rfl ?_
      refine R_aload_n (k := 0) rfl rfl rfl ?_
      refine R_callV (v := .inr (.inr (.inl 96))) (As := []) (rest := [.inr (.inr (.inl 96))]) rfl mt_9_i129 pp_X9_last (by decide) rfl rfl rfl (Nat.le_of_ble_eq_true rfl) (Nat.le_of_ble_eq_true rfl) ((k_X9_last h2 hI).mono (fun r22 h23 p24 => ?_))
      obtain ⟨rfl, x25, rfl, q26⟩ := p24
      show RUN d_X9_asksBrigade 16 [(0, .inr (.inr (.inl 96)))] [.inl x25, .inr (.inr (.inl 96))] h2 _
      refine R_callV (v := .inr (.inr (.inl 96))) (As := [.inl x25]) (rest := []) rfl mt_9_i304 pp_X9_goAll (by decide) rfl rfl rfl (Nat.le_of_ble_eq_true rfl) (Nat.le_of_ble_eq_true rfl) ((k_X9_goAll h2 hI x25 (by omega)).mono (fun r27 h28 p29 => ?_))
      obtain ⟨hJ, fj, ⟨kp30, kp31, kp32, kp33, kp34, kp35, kp36, kp37, -⟩, rfl⟩ := p29
      have f38 := fj
      have fr := fr.trans fj (by decide)
      have hI := hJ
      have s39 : (h28.1 97 10).toInt = (h2.1 97 10).toInt := by rw [(f38 97 (by decide)).1]
      have s40 : (h28.1 97 0).toInt = (h2.1 97 0).toInt := by rw [(f38 97 (by decide)).1]
      show RUN d_X9_asksBrigade 19 [(0, .inr (.inr (.inl 96)))] [] h28 _
      refine R_aload_n (k := 0) rfl rfl rfl ?_
      refine R_callV (v := .inr (.inr (.inl 96))) (As := []) (rest := []) rfl mt_9_i301 pp_X9_isBrigade (by decide) rfl rfl rfl (Nat.le_of_ble_eq_true rfl) (Nat.le_of_ble_eq_true rfl) ((k_X9_isBrigade h28 hI).mono (fun r41 h42 p43 => ?_))
      obtain ⟨rfl, x44, rfl, q45 | q45⟩ := p43
      · exfalso; omega
      · show RUN d_X9_asksBrigade 23 [(0, .inr (.inr (.inl 96)))] [.inl x44] h28 _
        have s46 : (h28.1 97 0).toInt = (h.1 97 0).toInt := by rw [(fr 97 (by decide)).1]
        have s47 : (h28.1 97 10).toInt = (h.1 97 10).toInt := by rw [(fr 97 (by decide)).1]
        exact R_iret rfl rfl (nar_z (by omega)) ⟨hI, fr, trivial, _, rfl, by omega⟩
abbrev q_X9_isSecond (h : PH) (a0 : Int64) : Option PV → PH → Prop := fun r h' => h = h' ∧ ∃ z : Int32, r = some (.inl z) ∧ ((z.toInt = 0 ∧ a0.toInt ≤ (-1)) ∨ (z.toInt = 0 ∧ 0 ≤ a0.toInt ∧ (h.1 97 0).toInt ≤ a0.toInt + 0) ∨ (z.toInt = 1 ∧ 0 ≤ a0.toInt ∧ a0.toInt ≤ 59 ∧ 1 ≤ (h.1 97 0).toInt ∧ (h.1 97 0).toInt ≤ 60 ∧ a0.toInt ≤ (h.1 97 0).toInt + (-1)))
set_option maxHeartbeats 4000000 in
set_option maxRecDepth 100000 in
theorem k_X9_isSecond (h : PH) (hI : INV h) (a0 : Int64) : CALL d_X9_isSecond [.inr (.inr (.inl 96)), .inr (.inl a0)] h (q_X9_isSecond h a0) := by
  show RUN d_X9_isSecond 0 [(0, .inr (.inr (.inl 96))), (1, .inr (.inl a0))] [] h _
  refine R_lload_n (k := 1) rfl rfl rfl ?_
  refine R_lconst 0 rfl rfl ?_
  refine R_aload_n (k := 0) rfl rfl rfl ?_
  have b1 : (0 : Int) ≤ (h.1 97 0).toInt ∧ (h.1 97 0).toInt ≤ 60 := hI.1 97 0
  refine R_callV (v := .inr (.inr (.inl 96))) (As := []) (rest := [.inr (.inl 0), .inr (.inl a0)]) rfl mt_9_i129 pp_X9_last (by decide) rfl rfl rfl (Nat.le_of_ble_eq_true rfl) (Nat.le_of_ble_eq_true rfl) ((k_X9_last h hI).mono (fun r2 h3 p4 => ?_))
  obtain ⟨rfl, x5, rfl, q6⟩ := p4
  show RUN d_X9_isSecond 6 [(0, .inr (.inr (.inl 96))), (1, .inr (.inl a0))] [.inl x5, .inr (.inl 0), .inr (.inl a0)] h _
  refine N_i2l rfl (fun w7 q8 => ?_)
  have k9 : (0 : Int64).toInt = 0 := by decide
  refine R_callS (As := [.inr (.inl a0), .inr (.inl 0), .inr (.inl w7)]) (rest := []) rfl mt_9_i125 (by decide) pp_X9_in (by decide) rfl rfl (Nat.le_of_ble_eq_true rfl) (Nat.le_of_ble_eq_true rfl) ((k_X9_in h hI a0 (0 : Int64) w7).mono (fun r10 h11 p12 => ?_))
  obtain ⟨rfl, x13, rfl, q14 | q14 | q14⟩ := p12
  · show RUN d_X9_isSecond 10 [(0, .inr (.inr (.inl 96))), (1, .inr (.inl a0))] [.inl x13] h _
    exact R_iret rfl rfl (nar_z (by omega)) ⟨rfl, _, rfl, by omega⟩
  · show RUN d_X9_isSecond 10 [(0, .inr (.inr (.inl 96))), (1, .inr (.inl a0))] [.inl x13] h _
    exact R_iret rfl rfl (nar_z (by omega)) ⟨rfl, _, rfl, by omega⟩
  · show RUN d_X9_isSecond 10 [(0, .inr (.inr (.inl 96))), (1, .inr (.inl a0))] [.inl x13] h _
    exact R_iret rfl rfl (nar_z (by omega)) ⟨rfl, _, rfl, by omega⟩
abbrev q_X9_asksSecond (h : PH) (a0 : Int32) : Option PV → PH → Prop := fun r h' => INV h' ∧ FR [96, 103, 104, 105, 106, 107, 108, 109, 110, 111, 112, 113, 114, 115, 116, 117, 118, 119] h h' ∧ (True) ∧ ∃ z : Int32, r = some (.inl z) ∧ ((z.toInt = 0 ∧ (h.1 97 10).toInt ≤ 0) ∨ (z.toInt = 0 ∧ a0.toInt ≤ (-1) ∧ 1 ≤ (h.1 97 0).toInt ∧ (h.1 97 0).toInt ≤ 60 ∧ 1 ≤ (h.1 97 10).toInt) ∨ (z.toInt = 0 ∧ 1 ≤ a0.toInt ∧ 1 ≤ (h.1 97 0).toInt ∧ (h.1 97 0).toInt ≤ 60 ∧ 1 ≤ (h.1 97 10).toInt ∧ (h.1 97 0).toInt ≤ a0.toInt + 0) ∨ (z.toInt = 1 ∧ 0 ≤ a0.toInt ∧ a0.toInt ≤ 59 ∧ 1 ≤ (h.1 97 0).toInt ∧ (h.1 97 0).toInt ≤ 60 ∧ 1 ≤ (h.1 97 10).toInt ∧ a0.toInt ≤ (h.1 97 0).toInt + (-1)))
set_option maxHeartbeats 4000000 in
set_option maxRecDepth 100000 in
theorem k_X9_asksSecond (h : PH) (hI : INV h) (a0 : Int32) : CALL d_X9_asksSecond [.inr (.inr (.inl 96)), .inl a0] h (q_X9_asksSecond h a0) := by
  show RUN d_X9_asksSecond 0 [(0, .inr (.inr (.inl 96))), (1, .inl a0)] [] h _
  have b1 := i_rng a0
  have fr : FR [96, 103, 104, 105, 106, 107, 108, 109, 110, 111, 112, 113, 114, 115, 116, 117, 118, 119] h h := FR.rf _ _
  refine R_aload_n (k := 0) rfl rfl rfl ?_
  have b2 : (0 : Int) ≤ (h.1 97 0).toInt ∧ (h.1 97 0).toInt ≤ 60 := hI.1 97 0
  have e3 : 0 < (h.1 97 10).toInt → 1 ≤ (h.1 97 0).toInt := hI.2.2.2.2.2.1.2.1
  refine R_callV (v := .inr (.inr (.inl 96))) (As := []) (rest := []) rfl mt_9_i307 pp_X9_asksBrigade (by decide) rfl rfl rfl (Nat.le_of_ble_eq_true rfl) (Nat.le_of_ble_eq_true rfl) ((k_X9_asksBrigade h hI).mono (fun r4 h5 p6 => ?_))
  obtain ⟨hJ, fj, -, x7, rfl, q8 | q8⟩ := p6
  · have f9 := fj
    have fr := fr.trans fj (by decide)
    have hI := hJ
    have s10 : (h5.1 97 10).toInt = (h.1 97 10).toInt := by rw [(f9 97 (by decide)).1]
    have s11 : (h5.1 97 0).toInt = (h.1 97 0).toInt := by rw [(f9 97 (by decide)).1]
    show RUN d_X9_asksSecond 4 [(0, .inr (.inr (.inl 96))), (1, .inl a0)] [.inl x7] h5 _
    refine N_if_eq (a := x7.toInt) 20 rfl rfl rfl (fun c12 => ?_) (fun c12 => ?_)
    · refine R_iconst 0 rfl rfl ?_
      have s13 : (h5.1 97 0).toInt = (h.1 97 0).toInt := by rw [(fr 97 (by decide)).1]
      have s14 : (h5.1 97 10).toInt = (h.1 97 10).toInt := by rw [(fr 97 (by decide)).1]
      exact R_iret rfl rfl rfl ⟨hI, fr, trivial, _, rfl, by rw [show (0 : Int32).toInt = 0 from rfl] <;> omega⟩
    · exfalso; omega
  · have f15 := fj
    have fr := fr.trans fj (by decide)
    have hI := hJ
    have s16 : (h5.1 97 10).toInt = (h.1 97 10).toInt := by rw [(f15 97 (by decide)).1]
    have s17 : (h5.1 97 0).toInt = (h.1 97 0).toInt := by rw [(f15 97 (by decide)).1]
    show RUN d_X9_asksSecond 4 [(0, .inr (.inr (.inl 96))), (1, .inl a0)] [.inl x7] h5 _
    refine N_if_eq (a := x7.toInt) 20 rfl rfl rfl (fun c18 => ?_) (fun c18 => ?_)
    · exfalso; omega
    · refine R_aload_n (k := 0) rfl rfl rfl ?_
      refine R_iload_n (k := 1) rfl rfl rfl ?_
      refine N_i2l rfl (fun w19 q20 => ?_)
      refine R_callV (v := .inr (.inr (.inl 96))) (As := [.inr (.inl w19)]) (rest := []) rfl mt_9_i310 pp_X9_isSecond (by decide) rfl rfl rfl (Nat.le_of_ble_eq_true rfl) (Nat.le_of_ble_eq_true rfl) ((k_X9_isSecond h5 hI w19).mono (fun r21 h22 p23 => ?_))
      obtain ⟨rfl, x24, rfl, q25 | q25 | q25⟩ := p23
      · show RUN d_X9_asksSecond 13 [(0, .inr (.inr (.inl 96))), (1, .inl a0)] [.inl x24] h5 _
        refine N_if_eq (a := x24.toInt) 20 rfl rfl rfl (fun c26 => ?_) (fun c26 => ?_)
        · refine R_iconst 0 rfl rfl ?_
          have s27 : (h5.1 97 0).toInt = (h.1 97 0).toInt := by rw [(fr 97 (by decide)).1]
          have s28 : (h5.1 97 10).toInt = (h.1 97 10).toInt := by rw [(fr 97 (by decide)).1]
          exact R_iret rfl rfl rfl ⟨hI, fr, trivial, _, rfl, by rw [show (0 : Int32).toInt = 0 from rfl] <;> omega⟩
        · exfalso; omega
      · show RUN d_X9_asksSecond 13 [(0, .inr (.inr (.inl 96))), (1, .inl a0)] [.inl x24] h5 _
        refine N_if_eq (a := x24.toInt) 20 rfl rfl rfl (fun c29 => ?_) (fun c29 => ?_)
        · refine R_iconst 0 rfl rfl ?_
          have s30 : (h5.1 97 0).toInt = (h.1 97 0).toInt := by rw [(fr 97 (by decide)).1]
          have s31 : (h5.1 97 10).toInt = (h.1 97 10).toInt := by rw [(fr 97 (by decide)).1]
          exact R_iret rfl rfl rfl ⟨hI, fr, trivial, _, rfl, by rw [show (0 : Int32).toInt = 0 from rfl] <;> omega⟩
        · exfalso; omega
      · show RUN d_X9_asksSecond 13 [(0, .inr (.inr (.inl 96))), (1, .inl a0)] [.inl x24] h5 _
        refine N_if_eq (a := x24.toInt) 20 rfl rfl rfl (fun c32 => ?_) (fun c32 => ?_)
        · exfalso; omega
        · refine R_iconst 1 rfl rfl ?_
          refine R_goto 21 rfl rfl ?_
          have s33 : (h5.1 97 0).toInt = (h.1 97 0).toInt := by rw [(fr 97 (by decide)).1]
          have s34 : (h5.1 97 10).toInt = (h.1 97 10).toInt := by rw [(fr 97 (by decide)).1]
          exact R_iret rfl rfl rfl ⟨hI, fr, trivial, _, rfl, by rw [show (1 : Int32).toInt = 1 from rfl] <;> omega⟩
abbrev q_X9_heldOf (h : PH) (a0 : Int32) (a1 : Int32) : Option PV → PH → Prop := fun r h' => h = h' ∧ ∃ z : Int32, r = some (.inl z) ∧ ((True))
set_option maxHeartbeats 4000000 in
set_option maxRecDepth 100000 in
theorem k_X9_heldOf (h : PH) (hI : INV h) (a0 : Int32) (a1 : Int32) (h0a : 0 ≤ a0.toInt ∧ a0.toInt ≤ 5) (h1a : 0 ≤ a1.toInt ∧ a1.toInt ≤ 59) : CALL d_X9_heldOf [.inr (.inr (.inl 96)), .inl a0, .inl a1] h (q_X9_heldOf h a0 a1) := by
  show RUN d_X9_heldOf 0 [(0, .inr (.inr (.inl 96))), (1, .inl a0), (2, .inl a1)] [] h _
  refine R_aload_n (k := 0) rfl rfl rfl ?_
  refine R_getf_r (j := 25) rfl ft_9_55 sh_96 rfl ?_
  refine R_bipush 6 rfl rfl ?_
  refine R_iload_n (k := 2) rfl rfl rfl ?_
  refine N_imul (a := 6) (b := a1.toInt) rfl (by decide) rfl (by omega) (fun x1 q2 => ?_)
  refine R_iload_n (k := 1) rfl rfl rfl ?_
  refine N_iadd (a := x1.toInt) (b := a0.toInt) rfl rfl rfl (by omega) (fun x3 q4 => ?_)
  refine R_iald rfl sh_110 ⟨by omega, by omega⟩ ?_
  refine N_any (fun x5 => ?_)
  exact R_iret rfl rfl rfl ⟨rfl, _, rfl, trivial⟩
abbrev q_X9_holds (h : PH) (a0 : Int32) (a1 : Int32) : Option PV → PH → Prop := fun r h' => INV h' ∧ FR [96, 103, 104, 105, 106, 107, 108, 109, 110, 111, 112, 113, 114, 115, 116, 117, 118, 119] h h' ∧ (True) ∧ ∃ z : Int32, r = some (.inl z) ∧ ((True))
set_option maxHeartbeats 4000000 in
set_option maxRecDepth 100000 in
theorem k_X9_holds (h : PH) (hI : INV h) (a0 : Int32) (a1 : Int32) : CALL d_X9_holds [.inr (.inr (.inl 96)), .inl a0, .inl a1] h (q_X9_holds h a0 a1) := by
  show RUN d_X9_holds 0 [(0, .inr (.inr (.inl 96))), (1, .inl a0), (2, .inl a1)] [] h _
  have b1 := i_rng a0
  have b2 := i_rng a1
  have fr : FR [96, 103, 104, 105, 106, 107, 108, 109, 110, 111, 112, 113, 114, 115, 116, 117, 118, 119] h h := FR.rf _ _
  refine R_aload_n (k := 0) rfl rfl rfl ?_
  refine R_iload_n (k := 2) rfl rfl rfl ?_
  have b3 : (0 : Int) ≤ (h.1 97 0).toInt ∧ (h.1 97 0).toInt ≤ 60 := hI.1 97 0
  have e4 : 0 < (h.1 97 10).toInt → 1 ≤ (h.1 97 0).toInt := hI.2.2.2.2.2.1.2.1
  refine R_callV (v := .inr (.inr (.inl 96))) (As := [.inl a1]) (rest := []) rfl mt_9_i318 pp_X9_asksSecond (by decide) rfl rfl rfl (Nat.le_of_ble_eq_true rfl) (Nat.le_of_ble_eq_true rfl) ((k_X9_asksSecond h hI a1).mono (fun r5 h6 p7 => ?_))
  obtain ⟨hJ, fj, -, x8, rfl, q9 | q9 | q9 | q9⟩ := p7
  · have f10 := fj
    have fr := fr.trans fj (by decide)
    have hI := hJ
    have s11 : (h6.1 97 10).toInt = (h.1 97 10).toInt := by rw [(f10 97 (by decide)).1]
    have s12 : (h6.1 97 0).toInt = (h.1 97 0).toInt := by rw [(f10 97 (by decide)).1]
    show RUN d_X9_holds 5 [(0, .inr (.inr (.inl 96))), (1, .inl a0), (2, .inl a1)] [.inl x8] h6 _
    refine N_if_eq (a := x8.toInt) 44 rfl rfl rfl (fun c13 => ?_) (fun c13 => ?_)
    · refine R_bipush (-2) rfl rfl ?_
      exact R_iret rfl rfl rfl ⟨hI, fr, trivial, _, rfl, trivial⟩
    · exfalso; omega
  · have f14 := fj
    have fr := fr.trans fj (by decide)
    have hI := hJ
    have s15 : (h6.1 97 10).toInt = (h.1 97 10).toInt := by rw [(f14 97 (by decide)).1]
    have s16 : (h6.1 97 0).toInt = (h.1 97 0).toInt := by rw [(f14 97 (by decide)).1]
    show RUN d_X9_holds 5 [(0, .inr (.inr (.inl 96))), (1, .inl a0), (2, .inl a1)] [.inl x8] h6 _
    refine N_if_eq (a := x8.toInt) 44 rfl rfl rfl (fun c17 => ?_) (fun c17 => ?_)
    · refine R_bipush (-2) rfl rfl ?_
      exact R_iret rfl rfl rfl ⟨hI, fr, trivial, _, rfl, trivial⟩
    · exfalso; omega
  · have f18 := fj
    have fr := fr.trans fj (by decide)
    have hI := hJ
    have s19 : (h6.1 97 10).toInt = (h.1 97 10).toInt := by rw [(f18 97 (by decide)).1]
    have s20 : (h6.1 97 0).toInt = (h.1 97 0).toInt := by rw [(f18 97 (by decide)).1]
    show RUN d_X9_holds 5 [(0, .inr (.inr (.inl 96))), (1, .inl a0), (2, .inl a1)] [.inl x8] h6 _
    refine N_if_eq (a := x8.toInt) 44 rfl rfl rfl (fun c21 => ?_) (fun c21 => ?_)
    · refine R_bipush (-2) rfl rfl ?_
      exact R_iret rfl rfl rfl ⟨hI, fr, trivial, _, rfl, trivial⟩
    · exfalso; omega
  · have f22 := fj
    have fr := fr.trans fj (by decide)
    have hI := hJ
    have s23 : (h6.1 97 10).toInt = (h.1 97 10).toInt := by rw [(f22 97 (by decide)).1]
    have s24 : (h6.1 97 0).toInt = (h.1 97 0).toInt := by rw [(f22 97 (by decide)).1]
    show RUN d_X9_holds 5 [(0, .inr (.inr (.inl 96))), (1, .inl a0), (2, .inl a1)] [.inl x8] h6 _
    refine N_if_eq (a := x8.toInt) 44 rfl rfl rfl (fun c25 => ?_) (fun c25 => ?_)
    · exfalso; omega
    · refine R_aload_n (k := 0) rfl rfl rfl ?_
      refine R_iload_n (k := 1) rfl rfl rfl ?_
      have b26 : (0 : Int) ≤ (h6.1 97 5).toInt ∧ (h6.1 97 5).toInt ≤ 6 := hI.1 97 5
      have e27 : 0 < (h6.1 97 5).toInt → 1 ≤ (h6.1 97 0).toInt := hI.2.2.2.2.2.1.2.2
      refine R_callV (v := .inr (.inr (.inl 96))) (As := [.inl a0]) (rest := []) rfl mt_9_i314 pp_X9_isHand (by decide) rfl rfl rfl (Nat.le_of_ble_eq_true rfl) (Nat.le_of_ble_eq_true rfl) ((k_X9_isHand h6 hI a0).mono (fun r28 h29 p30 => ?_))
      obtain ⟨rfl, x31, rfl, q32 | q32 | q32⟩ := p30
      · show RUN d_X9_holds 13 [(0, .inr (.inr (.inl 96))), (1, .inl a0), (2, .inl a1)] [.inl x31] h6 _
        refine N_if_eq (a := x31.toInt) 44 rfl rfl rfl (fun c33 => ?_) (fun c33 => ?_)
        · refine R_bipush (-2) rfl rfl ?_
          exact R_iret rfl rfl rfl ⟨hI, fr, trivial, _, rfl, trivial⟩
        · exfalso; omega
      · show RUN d_X9_holds 13 [(0, .inr (.inr (.inl 96))), (1, .inl a0), (2, .inl a1)] [.inl x31] h6 _
        refine N_if_eq (a := x31.toInt) 44 rfl rfl rfl (fun c34 => ?_) (fun c34 => ?_)
        · refine R_bipush (-2) rfl rfl ?_
          exact R_iret rfl rfl rfl ⟨hI, fr, trivial, _, rfl, trivial⟩
        · exfalso; omega
      · show RUN d_X9_holds 13 [(0, .inr (.inr (.inl 96))), (1, .inl a0), (2, .inl a1)] [.inl x31] h6 _
        refine N_if_eq (a := x31.toInt) 44 rfl rfl rfl (fun c35 => ?_) (fun c35 => ?_)
        · exfalso; omega
        · refine R_aload_n (k := 0) rfl rfl rfl ?_
          refine R_iload_n (k := 1) rfl rfl rfl ?_
          refine R_iload_n (k := 2) rfl rfl rfl ?_
          refine R_callV (v := .inr (.inr (.inl 96))) (As := [.inl a0, .inl a1]) (rest := []) rfl mt_9_i321 pp_X9_heldOf (by decide) rfl rfl rfl (Nat.le_of_ble_eq_true rfl) (Nat.le_of_ble_eq_true rfl) ((k_X9_heldOf h6 hI a0 a1 (by omega) (by omega)).mono (fun r36 h37 p38 => ?_))
          obtain ⟨rfl, x39, rfl, q40⟩ := p38
          show RUN d_X9_holds 22 [(0, .inr (.inr (.inl 96))), (1, .inl a0), (2, .inl a1)] [.inl x39] h6 _
          refine R_iconst (-1) rfl rfl ?_
          refine N_icmp_ne (a := x39.toInt) (b := (-1)) 30 rfl rfl rfl (by decide) (fun c41 => ?_) (fun c41 => ?_)
          · refine R_aload_n (k := 0) rfl rfl rfl ?_
            refine R_getf_r (j := 26) rfl ft_9_58 sh_96 rfl ?_
            refine R_bipush 6 rfl rfl ?_
            refine R_iload_n (k := 2) rfl rfl rfl ?_
            refine N_imul (a := 6) (b := a1.toInt) rfl (by decide) rfl (by omega) (fun x42 q43 => ?_)
            refine R_iload_n (k := 1) rfl rfl rfl ?_
            refine N_iadd (a := x42.toInt) (b := a0.toInt) rfl rfl rfl (by omega) (fun x44 q45 => ?_)
            refine R_iald rfl sh_111 ⟨by omega, by omega⟩ ?_
            refine N_any (fun x46 => ?_)
            refine R_goto 46 rfl rfl ?_
            exact R_iret rfl rfl rfl ⟨hI, fr, trivial, _, rfl, trivial⟩
          · refine R_iconst (-1) rfl rfl ?_
            refine R_goto 46 rfl rfl ?_
            exact R_iret rfl rfl rfl ⟨hI, fr, trivial, _, rfl, trivial⟩
abbrev q_X6_heldAt (h : PH) (a0 : Int32) (a1 : Int32) : Option PV → PH → Prop := fun r h' => h = h' ∧ ∃ z : Int32, r = some (.inl z) ∧ ((True))
set_option maxHeartbeats 4000000 in
set_option maxRecDepth 100000 in
theorem k_X6_heldAt (h : PH) (hI : INV h) (a0 : Int32) (a1 : Int32) (h0a : 0 ≤ a0.toInt ∧ a0.toInt ≤ 5) (h1a : 0 ≤ a1.toInt ∧ a1.toInt ≤ 59) : CALL d_X6_heldAt [.inr (.inr (.inl 75)), .inl a0, .inl a1] h (q_X6_heldAt h a0 a1) := by
  show RUN d_X6_heldAt 0 [(0, .inr (.inr (.inl 75))), (1, .inl a0), (2, .inl a1)] [] h _
  refine R_aload_n (k := 0) rfl rfl rfl ?_
  refine R_getf_r (j := 0) rfl ft_6_9 sh_75 rfl ?_
  refine R_iload_n (k := 2) rfl rfl rfl ?_
  refine R_bipush 6 rfl rfl ?_
  refine N_imul (a := a1.toInt) (b := 6) rfl rfl (by decide) (by omega) (fun x1 q2 => ?_)
  refine R_iload_n (k := 1) rfl rfl rfl ?_
  refine N_iadd (a := x1.toInt) (b := a0.toInt) rfl rfl rfl (by omega) (fun x3 q4 => ?_)
  refine R_iald rfl sh_76 ⟨by omega, by omega⟩ ?_
  refine N_any (fun x5 => ?_)
  exact R_iret rfl rfl rfl ⟨rfl, _, rfl, trivial⟩
abbrev q_X8_held (h : PH) (a0 : Int32) (a1 : Int32) : Option PV → PH → Prop := fun r h' => INV h' ∧ FR [0, 70, 71, 72, 73, 74, 75, 76, 77, 78, 79, 80, 81, 82, 83, 84, 85, 86] h h' ∧ (True) ∧ ∃ z : Int32, r = some (.inl z) ∧ ((True))
set_option maxHeartbeats 4000000 in
set_option maxRecDepth 100000 in
theorem k_X8_held (h : PH) (hI : INV h) (a0 : Int32) (a1 : Int32) : CALL d_X8_held [.inr (.inr (.inl 0)), .inl a0, .inl a1] h (q_X8_held h a0 a1) := by
  show RUN d_X8_held 0 [(0, .inr (.inr (.inl 0))), (1, .inl a0), (2, .inl a1)] [] h _
  have b1 := i_rng a0
  have b2 := i_rng a1
  have fr : FR [0, 70, 71, 72, 73, 74, 75, 76, 77, 78, 79, 80, 81, 82, 83, 84, 85, 86] h h := FR.rf _ _
  refine R_aload_n (k := 0) rfl rfl rfl ?_
  refine R_getf_r (j := 3) rfl ft_8_28 sh_0 rfl ?_
  refine R_iload_n (k := 1) rfl rfl rfl ?_
  have b3 : (0 : Int) ≤ (h.1 17 5).toInt ∧ (h.1 17 5).toInt ≤ 6 := hI.1 17 5
  refine R_callV (v := .inr (.inr (.inl 16))) (As := [.inl a0]) (rest := []) rfl mt_8_i119 pp_X1_hasHand (by decide) rfl rfl rfl (Nat.le_of_ble_eq_true rfl) (Nat.le_of_ble_eq_true rfl) ((k_X1_hasHand h hI a0).mono (fun r4 h5 p6 => ?_))
  obtain ⟨rfl, x7, rfl, q8 | q8 | q8⟩ := p6
  · show RUN d_X8_held 8 [(0, .inr (.inr (.inl 0))), (1, .inl a0), (2, .inl a1)] [.inl x7] h _
    refine N_if_eq (a := x7.toInt) 22 rfl rfl rfl (fun c9 => ?_) (fun c9 => ?_)
    · refine R_bipush (-2) rfl rfl ?_
      exact R_iret rfl rfl rfl ⟨hI, fr, trivial, _, rfl, trivial⟩
    · exfalso; omega
  · show RUN d_X8_held 8 [(0, .inr (.inr (.inl 0))), (1, .inl a0), (2, .inl a1)] [.inl x7] h _
    refine N_if_eq (a := x7.toInt) 22 rfl rfl rfl (fun c10 => ?_) (fun c10 => ?_)
    · refine R_bipush (-2) rfl rfl ?_
      exact R_iret rfl rfl rfl ⟨hI, fr, trivial, _, rfl, trivial⟩
    · exfalso; omega
  · show RUN d_X8_held 8 [(0, .inr (.inr (.inl 0))), (1, .inl a0), (2, .inl a1)] [.inl x7] h _
    refine N_if_eq (a := x7.toInt) 22 rfl rfl rfl (fun c11 => ?_) (fun c11 => ?_)
    · exfalso; omega
    · refine R_aload_n (k := 0) rfl rfl rfl ?_
      refine R_getf_r (j := 3) rfl ft_8_28 sh_0 rfl ?_
      refine R_iload_n (k := 2) rfl rfl rfl ?_
      have b12 : (0 : Int) ≤ (h.1 17 0).toInt ∧ (h.1 17 0).toInt ≤ 60 := hI.1 17 0
      refine R_callV (v := .inr (.inr (.inl 16))) (As := [.inl a1]) (rest := []) rfl mt_8_i150 pp_X1_hasSecond (by decide) rfl rfl rfl (Nat.le_of_ble_eq_true rfl) (Nat.le_of_ble_eq_true rfl) ((k_X1_hasSecond h hI a1).mono (fun r13 h14 p15 => ?_))
      obtain ⟨rfl, x16, rfl, q17 | q17 | q17⟩ := p15
      · show RUN d_X8_held 19 [(0, .inr (.inr (.inl 0))), (1, .inl a0), (2, .inl a1)] [.inl x16] h _
        refine N_if_ne (a := x16.toInt) 25 rfl rfl rfl (fun c18 => ?_) (fun c18 => ?_)
        · exfalso; omega
        · refine R_bipush (-2) rfl rfl ?_
          exact R_iret rfl rfl rfl ⟨hI, fr, trivial, _, rfl, trivial⟩
      · show RUN d_X8_held 19 [(0, .inr (.inr (.inl 0))), (1, .inl a0), (2, .inl a1)] [.inl x16] h _
        refine N_if_ne (a := x16.toInt) 25 rfl rfl rfl (fun c19 => ?_) (fun c19 => ?_)
        · exfalso; omega
        · refine R_bipush (-2) rfl rfl ?_
          exact R_iret rfl rfl rfl ⟨hI, fr, trivial, _, rfl, trivial⟩
      · show RUN d_X8_held 19 [(0, .inr (.inr (.inl 0))), (1, .inl a0), (2, .inl a1)] [.inl x16] h _
        refine N_if_ne (a := x16.toInt) 25 rfl rfl rfl (fun c20 => ?_) (fun c20 => ?_)
        · refine R_aload_n (k := 0) rfl rfl rfl ?_
          refine R_callV (v := .inr (.inr (.inl 0))) (As := []) (rest := []) rfl mt_8_i153 pp_X8_told (by decide) rfl rfl rfl (Nat.le_of_ble_eq_true rfl) (Nat.le_of_ble_eq_true rfl) ((k_X8_told h hI).mono (fun r21 h22 p23 => ?_))
          obtain ⟨hJ, fj, -, rfl⟩ := p23
          have f24 := fj
          have fr := fr.trans fj (by decide)
          have hI := hJ
          have s25 : (h22.1 17 5).toInt = (h.1 17 5).toInt := by rw [(f24 17 (by decide)).1]
          have s26 : (h22.1 17 0).toInt = (h.1 17 0).toInt := by rw [(f24 17 (by decide)).1]
          show RUN d_X8_held 29 [(0, .inr (.inr (.inl 0))), (1, .inl a0), (2, .inl a1)] [.inr (.inr (.inl 75))] h22 _
          refine R_getf_r (j := 1) rfl ft_8_157 sh_75 rfl ?_
          refine R_iload_n (k := 2) rfl rfl rfl ?_
          refine R_iald rfl sh_77 ⟨by omega, by omega⟩ ?_
          refine N_any (fun x27 => ?_)
          refine N_i2l rfl (fun w28 q29 => ?_)
          refine R_iload_n (k := 1) rfl rfl rfl ?_
          refine R_callS (As := [.inr (.inl w28), .inl a0]) (rest := []) rfl mt_8_i160 (by decide) pp_X8_hasBit (by decide) rfl rfl (Nat.le_of_ble_eq_true rfl) (Nat.le_of_ble_eq_true rfl) ((k_X8_hasBit h22 hI w28 a0).mono (fun r30 h31 p32 => ?_))
          obtain ⟨rfl, x33, rfl, q34 | q34⟩ := p32
          · show RUN d_X8_held 39 [(0, .inr (.inr (.inl 0))), (1, .inl a0), (2, .inl a1)] [.inl x33] h22 _
            refine N_if_eq (a := x33.toInt) 54 rfl rfl rfl (fun c35 => ?_) (fun c35 => ?_)
            · refine R_iconst (-1) rfl rfl ?_
              exact R_iret rfl rfl rfl ⟨hI, fr, trivial, _, rfl, trivial⟩
            · exfalso; omega
          · show RUN d_X8_held 39 [(0, .inr (.inr (.inl 0))), (1, .inl a0), (2, .inl a1)] [.inl x33] h22 _
            refine N_if_eq (a := x33.toInt) 54 rfl rfl rfl (fun c36 => ?_) (fun c36 => ?_)
            · exfalso; omega
            · refine R_aload_n (k := 0) rfl rfl rfl ?_
              refine R_getf_r (j := 8) rfl ft_8_56 sh_0 rfl ?_
              refine R_iload_n (k := 1) rfl rfl rfl ?_
              refine R_iload_n (k := 2) rfl rfl rfl ?_
              refine R_callV (v := .inr (.inr (.inl 75))) (As := [.inl a0, .inl a1]) (rest := []) rfl mt_8_i167 pp_X6_heldAt (by decide) rfl rfl rfl (Nat.le_of_ble_eq_true rfl) (Nat.le_of_ble_eq_true rfl) ((k_X6_heldAt h22 hI a0 a1 (by omega) (by omega)).mono (fun r37 h38 p39 => ?_))
              obtain ⟨rfl, x40, rfl, q41⟩ := p39
              show RUN d_X8_held 51 [(0, .inr (.inr (.inl 0))), (1, .inl a0), (2, .inl a1)] [.inl x40] h22 _
              refine R_goto 55 rfl rfl ?_
              exact R_iret rfl rfl rfl ⟨hI, fr, trivial, _, rfl, trivial⟩
        · exfalso; omega
abbrev q_X9_held (h : PH) (a0 : Int32) (a1 : Int32) : Option PV → PH → Prop := fun r h' => INV h' ∧ FR [96, 103, 104, 105, 106, 107, 108, 109, 110, 111, 112, 113, 114, 115, 116, 117, 118, 119] h h' ∧ (True) ∧ ∃ z : Int32, r = some (.inl z) ∧ ((True))
set_option maxHeartbeats 4000000 in
set_option maxRecDepth 100000 in
theorem k_X9_held (h : PH) (hI : INV h) (a0 : Int32) (a1 : Int32) : CALL d_X9_held [.inr (.inr (.inl 96)), .inl a0, .inl a1] h (q_X9_held h a0 a1) := by
  show RUN d_X9_held 0 [(0, .inr (.inr (.inl 96))), (1, .inl a0), (2, .inl a1)] [] h _
  have b1 := i_rng a0
  have b2 := i_rng a1
  have fr : FR [96, 103, 104, 105, 106, 107, 108, 109, 110, 111, 112, 113, 114, 115, 116, 117, 118, 119] h h := FR.rf _ _
  refine R_aload_n (k := 0) rfl rfl rfl ?_
  refine R_iload_n (k := 2) rfl rfl rfl ?_
  have b3 : (0 : Int) ≤ (h.1 97 0).toInt ∧ (h.1 97 0).toInt ≤ 60 := hI.1 97 0
  have e4 : 0 < (h.1 97 10).toInt → 1 ≤ (h.1 97 0).toInt := hI.2.2.2.2.2.1.2.1
  refine R_callV (v := .inr (.inr (.inl 96))) (As := [.inl a1]) (rest := []) rfl mt_9_i318 pp_X9_asksSecond (by decide) rfl rfl rfl (Nat.le_of_ble_eq_true rfl) (Nat.le_of_ble_eq_true rfl) ((k_X9_asksSecond h hI a1).mono (fun r5 h6 p7 => ?_))
  obtain ⟨hJ, fj, -, x8, rfl, q9 | q9 | q9 | q9⟩ := p7
  · have f10 := fj
    have fr := fr.trans fj (by decide)
    have hI := hJ
    have s11 : (h6.1 97 10).toInt = (h.1 97 10).toInt := by rw [(f10 97 (by decide)).1]
    have s12 : (h6.1 97 0).toInt = (h.1 97 0).toInt := by rw [(f10 97 (by decide)).1]
    show RUN d_X9_held 5 [(0, .inr (.inr (.inl 96))), (1, .inl a0), (2, .inl a1)] [.inl x8] h6 _
    refine N_if_eq (a := x8.toInt) 34 rfl rfl rfl (fun c13 => ?_) (fun c13 => ?_)
    · refine R_bipush (-2) rfl rfl ?_
      exact R_iret rfl rfl rfl ⟨hI, fr, trivial, _, rfl, trivial⟩
    · exfalso; omega
  · have f14 := fj
    have fr := fr.trans fj (by decide)
    have hI := hJ
    have s15 : (h6.1 97 10).toInt = (h.1 97 10).toInt := by rw [(f14 97 (by decide)).1]
    have s16 : (h6.1 97 0).toInt = (h.1 97 0).toInt := by rw [(f14 97 (by decide)).1]
    show RUN d_X9_held 5 [(0, .inr (.inr (.inl 96))), (1, .inl a0), (2, .inl a1)] [.inl x8] h6 _
    refine N_if_eq (a := x8.toInt) 34 rfl rfl rfl (fun c17 => ?_) (fun c17 => ?_)
    · refine R_bipush (-2) rfl rfl ?_
      exact R_iret rfl rfl rfl ⟨hI, fr, trivial, _, rfl, trivial⟩
    · exfalso; omega
  · have f18 := fj
    have fr := fr.trans fj (by decide)
    have hI := hJ
    have s19 : (h6.1 97 10).toInt = (h.1 97 10).toInt := by rw [(f18 97 (by decide)).1]
    have s20 : (h6.1 97 0).toInt = (h.1 97 0).toInt := by rw [(f18 97 (by decide)).1]
    show RUN d_X9_held 5 [(0, .inr (.inr (.inl 96))), (1, .inl a0), (2, .inl a1)] [.inl x8] h6 _
    refine N_if_eq (a := x8.toInt) 34 rfl rfl rfl (fun c21 => ?_) (fun c21 => ?_)
    · refine R_bipush (-2) rfl rfl ?_
      exact R_iret rfl rfl rfl ⟨hI, fr, trivial, _, rfl, trivial⟩
    · exfalso; omega
  · have f22 := fj
    have fr := fr.trans fj (by decide)
    have hI := hJ
    have s23 : (h6.1 97 10).toInt = (h.1 97 10).toInt := by rw [(f22 97 (by decide)).1]
    have s24 : (h6.1 97 0).toInt = (h.1 97 0).toInt := by rw [(f22 97 (by decide)).1]
    show RUN d_X9_held 5 [(0, .inr (.inr (.inl 96))), (1, .inl a0), (2, .inl a1)] [.inl x8] h6 _
    refine N_if_eq (a := x8.toInt) 34 rfl rfl rfl (fun c25 => ?_) (fun c25 => ?_)
    · exfalso; omega
    · refine R_aload_n (k := 0) rfl rfl rfl ?_
      refine R_iload_n (k := 1) rfl rfl rfl ?_
      have b26 : (0 : Int) ≤ (h6.1 97 5).toInt ∧ (h6.1 97 5).toInt ≤ 6 := hI.1 97 5
      have e27 : 0 < (h6.1 97 5).toInt → 1 ≤ (h6.1 97 0).toInt := hI.2.2.2.2.2.1.2.2
      refine R_callV (v := .inr (.inr (.inl 96))) (As := [.inl a0]) (rest := []) rfl mt_9_i314 pp_X9_isHand (by decide) rfl rfl rfl (Nat.le_of_ble_eq_true rfl) (Nat.le_of_ble_eq_true rfl) ((k_X9_isHand h6 hI a0).mono (fun r28 h29 p30 => ?_))
      obtain ⟨rfl, x31, rfl, q32 | q32 | q32⟩ := p30
      · show RUN d_X9_held 13 [(0, .inr (.inr (.inl 96))), (1, .inl a0), (2, .inl a1)] [.inl x31] h6 _
        refine N_if_eq (a := x31.toInt) 34 rfl rfl rfl (fun c33 => ?_) (fun c33 => ?_)
        · refine R_bipush (-2) rfl rfl ?_
          exact R_iret rfl rfl rfl ⟨hI, fr, trivial, _, rfl, trivial⟩
        · exfalso; omega
      · show RUN d_X9_held 13 [(0, .inr (.inr (.inl 96))), (1, .inl a0), (2, .inl a1)] [.inl x31] h6 _
        refine N_if_eq (a := x31.toInt) 34 rfl rfl rfl (fun c34 => ?_) (fun c34 => ?_)
        · refine R_bipush (-2) rfl rfl ?_
          exact R_iret rfl rfl rfl ⟨hI, fr, trivial, _, rfl, trivial⟩
        · exfalso; omega
      · show RUN d_X9_held 13 [(0, .inr (.inr (.inl 96))), (1, .inl a0), (2, .inl a1)] [.inl x31] h6 _
        refine N_if_eq (a := x31.toInt) 34 rfl rfl rfl (fun c35 => ?_) (fun c35 => ?_)
        · exfalso; omega
        · refine R_aload_n (k := 0) rfl rfl rfl ?_
          refine R_iload_n (k := 1) rfl rfl rfl ?_
          refine R_iload_n (k := 2) rfl rfl rfl ?_
          refine R_callV (v := .inr (.inr (.inl 96))) (As := [.inl a0, .inl a1]) (rest := []) rfl mt_9_i321 pp_X9_heldOf (by decide) rfl rfl rfl (Nat.le_of_ble_eq_true rfl) (Nat.le_of_ble_eq_true rfl) ((k_X9_heldOf h6 hI a0 a1 (by omega) (by omega)).mono (fun r36 h37 p38 => ?_))
          obtain ⟨rfl, x39, rfl, q40⟩ := p38
          show RUN d_X9_held 22 [(0, .inr (.inr (.inl 96))), (1, .inl a0), (2, .inl a1)] [.inl x39] h6 _
          refine R_aload_n (k := 0) rfl rfl rfl ?_
          refine R_getf_r (j := 15) rfl ft_9_34 sh_96 rfl ?_
          refine R_iload_n (k := 1) rfl rfl rfl ?_
          refine R_iald rfl sh_103 ⟨by omega, by omega⟩ ?_
          refine N_any (fun x41 => ?_)
          refine N_min (a := x39.toInt) (b := x41.toInt) rfl mt_9_i167 rfl rfl ⟨by decide, by decide, Nat.le_of_ble_eq_true rfl⟩ (fun x42 q43 => ?_)
          refine R_goto 36 rfl rfl ?_
          exact R_iret rfl rfl rfl ⟨hI, fr, trivial, _, rfl, trivial⟩
abbrev q_X8_atSecond (h : PH) (a1 : Int32) : Option PV → PH → Prop := fun r h' => h = h' ∧ ∃ z : Int32, r = some (.inl z) ∧ ((True))
set_option maxHeartbeats 4000000 in
set_option maxRecDepth 100000 in
theorem k_X8_atSecond (h : PH) (hI : INV h) (a1 : Int32) : CALL d_X8_atSecond [.inr (.inr (.inl 0)), .inr (.inr (.inl 77)), .inl a1] h (q_X8_atSecond h a1) := by
  show RUN d_X8_atSecond 0 [(0, .inr (.inr (.inl 0))), (1, .inr (.inr (.inl 77))), (2, .inl a1)] [] h _
  have b1 := i_rng a1
  refine R_aload_n (k := 0) rfl rfl rfl ?_
  refine R_getf_r (j := 3) rfl ft_8_28 sh_0 rfl ?_
  refine R_iload_n (k := 2) rfl rfl rfl ?_
  have b2 : (0 : Int) ≤ (h.1 17 0).toInt ∧ (h.1 17 0).toInt ≤ 60 := hI.1 17 0
  refine R_callV (v := .inr (.inr (.inl 16))) (As := [.inl a1]) (rest := []) rfl mt_8_i150 pp_X1_hasSecond (by decide) rfl rfl rfl (Nat.le_of_ble_eq_true rfl) (Nat.le_of_ble_eq_true rfl) ((k_X1_hasSecond h hI a1).mono (fun r3 h4 p5 => ?_))
  obtain ⟨rfl, x6, rfl, q7 | q7 | q7⟩ := p5
  · show RUN d_X8_atSecond 8 [(0, .inr (.inr (.inl 0))), (1, .inr (.inr (.inl 77))), (2, .inl a1)] [.inl x6] h _
    refine N_if_eq (a := x6.toInt) 17 rfl rfl rfl (fun c8 => ?_) (fun c8 => ?_)
    · refine R_bipush (-2) rfl rfl ?_
      exact R_iret rfl rfl rfl ⟨rfl, _, rfl, trivial⟩
    · exfalso; omega
  · show RUN d_X8_atSecond 8 [(0, .inr (.inr (.inl 0))), (1, .inr (.inr (.inl 77))), (2, .inl a1)] [.inl x6] h _
    refine N_if_eq (a := x6.toInt) 17 rfl rfl rfl (fun c9 => ?_) (fun c9 => ?_)
    · refine R_bipush (-2) rfl rfl ?_
      exact R_iret rfl rfl rfl ⟨rfl, _, rfl, trivial⟩
    · exfalso; omega
  · show RUN d_X8_atSecond 8 [(0, .inr (.inr (.inl 0))), (1, .inr (.inr (.inl 77))), (2, .inl a1)] [.inl x6] h _
    refine N_if_eq (a := x6.toInt) 17 rfl rfl rfl (fun c10 => ?_) (fun c10 => ?_)
    · exfalso; omega
    · refine R_aload_n (k := 1) rfl rfl rfl ?_
      refine R_iload_n (k := 2) rfl rfl rfl ?_
      refine R_iald rfl sh_77 ⟨by omega, by omega⟩ ?_
      refine N_any (fun x11 => ?_)
      refine R_goto 19 rfl rfl ?_
      exact R_iret rfl rfl rfl ⟨rfl, _, rfl, trivial⟩
abbrev q_X8_atSecond_1 (h : PH) (a1 : Int32) : Option PV → PH → Prop := fun r h' => h = h' ∧ ∃ z : Int32, r = some (.inl z) ∧ ((True))
set_option maxHeartbeats 4000000 in
set_option maxRecDepth 100000 in
theorem k_X8_atSecond_1 (h : PH) (hI : INV h) (a1 : Int32) : CALL d_X8_atSecond [.inr (.inr (.inl 0)), .inr (.inr (.inl 78)), .inl a1] h (q_X8_atSecond_1 h a1) := by
  show RUN d_X8_atSecond 0 [(0, .inr (.inr (.inl 0))), (1, .inr (.inr (.inl 78))), (2, .inl a1)] [] h _
  have b1 := i_rng a1
  refine R_aload_n (k := 0) rfl rfl rfl ?_
  refine R_getf_r (j := 3) rfl ft_8_28 sh_0 rfl ?_
  refine R_iload_n (k := 2) rfl rfl rfl ?_
  have b2 : (0 : Int) ≤ (h.1 17 0).toInt ∧ (h.1 17 0).toInt ≤ 60 := hI.1 17 0
  refine R_callV (v := .inr (.inr (.inl 16))) (As := [.inl a1]) (rest := []) rfl mt_8_i150 pp_X1_hasSecond (by decide) rfl rfl rfl (Nat.le_of_ble_eq_true rfl) (Nat.le_of_ble_eq_true rfl) ((k_X1_hasSecond h hI a1).mono (fun r3 h4 p5 => ?_))
  obtain ⟨rfl, x6, rfl, q7 | q7 | q7⟩ := p5
  · show RUN d_X8_atSecond 8 [(0, .inr (.inr (.inl 0))), (1, .inr (.inr (.inl 78))), (2, .inl a1)] [.inl x6] h _
    refine N_if_eq (a := x6.toInt) 17 rfl rfl rfl (fun c8 => ?_) (fun c8 => ?_)
    · refine R_bipush (-2) rfl rfl ?_
      exact R_iret rfl rfl rfl ⟨rfl, _, rfl, trivial⟩
    · exfalso; omega
  · show RUN d_X8_atSecond 8 [(0, .inr (.inr (.inl 0))), (1, .inr (.inr (.inl 78))), (2, .inl a1)] [.inl x6] h _
    refine N_if_eq (a := x6.toInt) 17 rfl rfl rfl (fun c9 => ?_) (fun c9 => ?_)
    · refine R_bipush (-2) rfl rfl ?_
      exact R_iret rfl rfl rfl ⟨rfl, _, rfl, trivial⟩
    · exfalso; omega
  · show RUN d_X8_atSecond 8 [(0, .inr (.inr (.inl 0))), (1, .inr (.inr (.inl 78))), (2, .inl a1)] [.inl x6] h _
    refine N_if_eq (a := x6.toInt) 17 rfl rfl rfl (fun c10 => ?_) (fun c10 => ?_)
    · exfalso; omega
    · refine R_aload_n (k := 1) rfl rfl rfl ?_
      refine R_iload_n (k := 2) rfl rfl rfl ?_
      refine R_iald rfl sh_78 ⟨by omega, by omega⟩ ?_
      refine N_any (fun x11 => ?_)
      refine R_goto 19 rfl rfl ?_
      exact R_iret rfl rfl rfl ⟨rfl, _, rfl, trivial⟩
abbrev q_X8_atSecond_6 (h : PH) (a1 : Int32) : Option PV → PH → Prop := fun r h' => h = h' ∧ ∃ z : Int32, r = some (.inl z) ∧ ((True))
set_option maxHeartbeats 4000000 in
set_option maxRecDepth 100000 in
theorem k_X8_atSecond_6 (h : PH) (hI : INV h) (a1 : Int32) : CALL d_X8_atSecond [.inr (.inr (.inl 0)), .inr (.inr (.inl 79)), .inl a1] h (q_X8_atSecond_6 h a1) := by
  show RUN d_X8_atSecond 0 [(0, .inr (.inr (.inl 0))), (1, .inr (.inr (.inl 79))), (2, .inl a1)] [] h _
  have b1 := i_rng a1
  refine R_aload_n (k := 0) rfl rfl rfl ?_
  refine R_getf_r (j := 3) rfl ft_8_28 sh_0 rfl ?_
  refine R_iload_n (k := 2) rfl rfl rfl ?_
  have b2 : (0 : Int) ≤ (h.1 17 0).toInt ∧ (h.1 17 0).toInt ≤ 60 := hI.1 17 0
  refine R_callV (v := .inr (.inr (.inl 16))) (As := [.inl a1]) (rest := []) rfl mt_8_i150 pp_X1_hasSecond (by decide) rfl rfl rfl (Nat.le_of_ble_eq_true rfl) (Nat.le_of_ble_eq_true rfl) ((k_X1_hasSecond h hI a1).mono (fun r3 h4 p5 => ?_))
  obtain ⟨rfl, x6, rfl, q7 | q7 | q7⟩ := p5
  · show RUN d_X8_atSecond 8 [(0, .inr (.inr (.inl 0))), (1, .inr (.inr (.inl 79))), (2, .inl a1)] [.inl x6] h _
    refine N_if_eq (a := x6.toInt) 17 rfl rfl rfl (fun c8 => ?_) (fun c8 => ?_)
    · refine R_bipush (-2) rfl rfl ?_
      exact R_iret rfl rfl rfl ⟨rfl, _, rfl, trivial⟩
    · exfalso; omega
  · show RUN d_X8_atSecond 8 [(0, .inr (.inr (.inl 0))), (1, .inr (.inr (.inl 79))), (2, .inl a1)] [.inl x6] h _
    refine N_if_eq (a := x6.toInt) 17 rfl rfl rfl (fun c9 => ?_) (fun c9 => ?_)
    · refine R_bipush (-2) rfl rfl ?_
      exact R_iret rfl rfl rfl ⟨rfl, _, rfl, trivial⟩
    · exfalso; omega
  · show RUN d_X8_atSecond 8 [(0, .inr (.inr (.inl 0))), (1, .inr (.inr (.inl 79))), (2, .inl a1)] [.inl x6] h _
    refine N_if_eq (a := x6.toInt) 17 rfl rfl rfl (fun c10 => ?_) (fun c10 => ?_)
    · exfalso; omega
    · refine R_aload_n (k := 1) rfl rfl rfl ?_
      refine R_iload_n (k := 2) rfl rfl rfl ?_
      refine R_iald rfl sh_79 ⟨by omega, by omega⟩ ?_
      refine N_any (fun x11 => ?_)
      refine R_goto 19 rfl rfl ?_
      exact R_iret rfl rfl rfl ⟨rfl, _, rfl, trivial⟩
abbrev q_X8_atSecond_2 (h : PH) (a1 : Int32) : Option PV → PH → Prop := fun r h' => h = h' ∧ ∃ z : Int32, r = some (.inl z) ∧ ((True))
set_option maxHeartbeats 4000000 in
set_option maxRecDepth 100000 in
theorem k_X8_atSecond_2 (h : PH) (hI : INV h) (a1 : Int32) : CALL d_X8_atSecond [.inr (.inr (.inl 0)), .inr (.inr (.inl 81)), .inl a1] h (q_X8_atSecond_2 h a1) := by
  show RUN d_X8_atSecond 0 [(0, .inr (.inr (.inl 0))), (1, .inr (.inr (.inl 81))), (2, .inl a1)] [] h _
  have b1 := i_rng a1
  refine R_aload_n (k := 0) rfl rfl rfl ?_
  refine R_getf_r (j := 3) rfl ft_8_28 sh_0 rfl ?_
  refine R_iload_n (k := 2) rfl rfl rfl ?_
  have b2 : (0 : Int) ≤ (h.1 17 0).toInt ∧ (h.1 17 0).toInt ≤ 60 := hI.1 17 0
  refine R_callV (v := .inr (.inr (.inl 16))) (As := [.inl a1]) (rest := []) rfl mt_8_i150 pp_X1_hasSecond (by decide) rfl rfl rfl (Nat.le_of_ble_eq_true rfl) (Nat.le_of_ble_eq_true rfl) ((k_X1_hasSecond h hI a1).mono (fun r3 h4 p5 => ?_))
  obtain ⟨rfl, x6, rfl, q7 | q7 | q7⟩ := p5
  · show RUN d_X8_atSecond 8 [(0, .inr (.inr (.inl 0))), (1, .inr (.inr (.inl 81))), (2, .inl a1)] [.inl x6] h _
    refine N_if_eq (a := x6.toInt) 17 rfl rfl rfl (fun c8 => ?_) (fun c8 => ?_)
    · refine R_bipush (-2) rfl rfl ?_
      exact R_iret rfl rfl rfl ⟨rfl, _, rfl, trivial⟩
    · exfalso; omega
  · show RUN d_X8_atSecond 8 [(0, .inr (.inr (.inl 0))), (1, .inr (.inr (.inl 81))), (2, .inl a1)] [.inl x6] h _
    refine N_if_eq (a := x6.toInt) 17 rfl rfl rfl (fun c9 => ?_) (fun c9 => ?_)
    · refine R_bipush (-2) rfl rfl ?_
      exact R_iret rfl rfl rfl ⟨rfl, _, rfl, trivial⟩
    · exfalso; omega
  · show RUN d_X8_atSecond 8 [(0, .inr (.inr (.inl 0))), (1, .inr (.inr (.inl 81))), (2, .inl a1)] [.inl x6] h _
    refine N_if_eq (a := x6.toInt) 17 rfl rfl rfl (fun c10 => ?_) (fun c10 => ?_)
    · exfalso; omega
    · refine R_aload_n (k := 1) rfl rfl rfl ?_
      refine R_iload_n (k := 2) rfl rfl rfl ?_
      refine R_iald rfl sh_81 ⟨by omega, by omega⟩ ?_
      refine N_any (fun x11 => ?_)
      refine R_goto 19 rfl rfl ?_
      exact R_iret rfl rfl rfl ⟨rfl, _, rfl, trivial⟩
abbrev q_X8_atSecond_7 (h : PH) (a1 : Int32) : Option PV → PH → Prop := fun r h' => h = h' ∧ ∃ z : Int32, r = some (.inl z) ∧ ((True))
set_option maxHeartbeats 4000000 in
set_option maxRecDepth 100000 in
theorem k_X8_atSecond_7 (h : PH) (hI : INV h) (a1 : Int32) : CALL d_X8_atSecond [.inr (.inr (.inl 0)), .inr (.inr (.inl 82)), .inl a1] h (q_X8_atSecond_7 h a1) := by
  show RUN d_X8_atSecond 0 [(0, .inr (.inr (.inl 0))), (1, .inr (.inr (.inl 82))), (2, .inl a1)] [] h _
  have b1 := i_rng a1
  refine R_aload_n (k := 0) rfl rfl rfl ?_
  refine R_getf_r (j := 3) rfl ft_8_28 sh_0 rfl ?_
  refine R_iload_n (k := 2) rfl rfl rfl ?_
  have b2 : (0 : Int) ≤ (h.1 17 0).toInt ∧ (h.1 17 0).toInt ≤ 60 := hI.1 17 0
  refine R_callV (v := .inr (.inr (.inl 16))) (As := [.inl a1]) (rest := []) rfl mt_8_i150 pp_X1_hasSecond (by decide) rfl rfl rfl (Nat.le_of_ble_eq_true rfl) (Nat.le_of_ble_eq_true rfl) ((k_X1_hasSecond h hI a1).mono (fun r3 h4 p5 => ?_))
  obtain ⟨rfl, x6, rfl, q7 | q7 | q7⟩ := p5
  · show RUN d_X8_atSecond 8 [(0, .inr (.inr (.inl 0))), (1, .inr (.inr (.inl 82))), (2, .inl a1)] [.inl x6] h _
    refine N_if_eq (a := x6.toInt) 17 rfl rfl rfl (fun c8 => ?_) (fun c8 => ?_)
    · refine R_bipush (-2) rfl rfl ?_
      exact R_iret rfl rfl rfl ⟨rfl, _, rfl, trivial⟩
    · exfalso; omega
  · show RUN d_X8_atSecond 8 [(0, .inr (.inr (.inl 0))), (1, .inr (.inr (.inl 82))), (2, .inl a1)] [.inl x6] h _
    refine N_if_eq (a := x6.toInt) 17 rfl rfl rfl (fun c9 => ?_) (fun c9 => ?_)
    · refine R_bipush (-2) rfl rfl ?_
      exact R_iret rfl rfl rfl ⟨rfl, _, rfl, trivial⟩
    · exfalso; omega
  · show RUN d_X8_atSecond 8 [(0, .inr (.inr (.inl 0))), (1, .inr (.inr (.inl 82))), (2, .inl a1)] [.inl x6] h _
    refine N_if_eq (a := x6.toInt) 17 rfl rfl rfl (fun c10 => ?_) (fun c10 => ?_)
    · exfalso; omega
    · refine R_aload_n (k := 1) rfl rfl rfl ?_
      refine R_iload_n (k := 2) rfl rfl rfl ?_
      refine R_iald rfl sh_82 ⟨by omega, by omega⟩ ?_
      refine N_any (fun x11 => ?_)
      refine R_goto 19 rfl rfl ?_
      exact R_iret rfl rfl rfl ⟨rfl, _, rfl, trivial⟩
abbrev q_X8_atSecond_3 (h : PH) (a1 : Int32) : Option PV → PH → Prop := fun r h' => h = h' ∧ ∃ z : Int32, r = some (.inl z) ∧ ((True))
set_option maxHeartbeats 4000000 in
set_option maxRecDepth 100000 in
theorem k_X8_atSecond_3 (h : PH) (hI : INV h) (a1 : Int32) : CALL d_X8_atSecond [.inr (.inr (.inl 0)), .inr (.inr (.inl 83)), .inl a1] h (q_X8_atSecond_3 h a1) := by
  show RUN d_X8_atSecond 0 [(0, .inr (.inr (.inl 0))), (1, .inr (.inr (.inl 83))), (2, .inl a1)] [] h _
  have b1 := i_rng a1
  refine R_aload_n (k := 0) rfl rfl rfl ?_
  refine R_getf_r (j := 3) rfl ft_8_28 sh_0 rfl ?_
  refine R_iload_n (k := 2) rfl rfl rfl ?_
  have b2 : (0 : Int) ≤ (h.1 17 0).toInt ∧ (h.1 17 0).toInt ≤ 60 := hI.1 17 0
  refine R_callV (v := .inr (.inr (.inl 16))) (As := [.inl a1]) (rest := []) rfl mt_8_i150 pp_X1_hasSecond (by decide) rfl rfl rfl (Nat.le_of_ble_eq_true rfl) (Nat.le_of_ble_eq_true rfl) ((k_X1_hasSecond h hI a1).mono (fun r3 h4 p5 => ?_))
  obtain ⟨rfl, x6, rfl, q7 | q7 | q7⟩ := p5
  · show RUN d_X8_atSecond 8 [(0, .inr (.inr (.inl 0))), (1, .inr (.inr (.inl 83))), (2, .inl a1)] [.inl x6] h _
    refine N_if_eq (a := x6.toInt) 17 rfl rfl rfl (fun c8 => ?_) (fun c8 => ?_)
    · refine R_bipush (-2) rfl rfl ?_
      exact R_iret rfl rfl rfl ⟨rfl, _, rfl, trivial⟩
    · exfalso; omega
  · show RUN d_X8_atSecond 8 [(0, .inr (.inr (.inl 0))), (1, .inr (.inr (.inl 83))), (2, .inl a1)] [.inl x6] h _
    refine N_if_eq (a := x6.toInt) 17 rfl rfl rfl (fun c9 => ?_) (fun c9 => ?_)
    · refine R_bipush (-2) rfl rfl ?_
      exact R_iret rfl rfl rfl ⟨rfl, _, rfl, trivial⟩
    · exfalso; omega
  · show RUN d_X8_atSecond 8 [(0, .inr (.inr (.inl 0))), (1, .inr (.inr (.inl 83))), (2, .inl a1)] [.inl x6] h _
    refine N_if_eq (a := x6.toInt) 17 rfl rfl rfl (fun c10 => ?_) (fun c10 => ?_)
    · exfalso; omega
    · refine R_aload_n (k := 1) rfl rfl rfl ?_
      refine R_iload_n (k := 2) rfl rfl rfl ?_
      refine R_iald rfl sh_83 ⟨by omega, by omega⟩ ?_
      refine N_any (fun x11 => ?_)
      refine R_goto 19 rfl rfl ?_
      exact R_iret rfl rfl rfl ⟨rfl, _, rfl, trivial⟩
abbrev q_X8_atSecond_4 (h : PH) (a1 : Int32) : Option PV → PH → Prop := fun r h' => h = h' ∧ ∃ z : Int32, r = some (.inl z) ∧ ((True))
set_option maxHeartbeats 4000000 in
set_option maxRecDepth 100000 in
theorem k_X8_atSecond_4 (h : PH) (hI : INV h) (a1 : Int32) : CALL d_X8_atSecond [.inr (.inr (.inl 0)), .inr (.inr (.inl 84)), .inl a1] h (q_X8_atSecond_4 h a1) := by
  show RUN d_X8_atSecond 0 [(0, .inr (.inr (.inl 0))), (1, .inr (.inr (.inl 84))), (2, .inl a1)] [] h _
  have b1 := i_rng a1
  refine R_aload_n (k := 0) rfl rfl rfl ?_
  refine R_getf_r (j := 3) rfl ft_8_28 sh_0 rfl ?_
  refine R_iload_n (k := 2) rfl rfl rfl ?_
  have b2 : (0 : Int) ≤ (h.1 17 0).toInt ∧ (h.1 17 0).toInt ≤ 60 := hI.1 17 0
  refine R_callV (v := .inr (.inr (.inl 16))) (As := [.inl a1]) (rest := []) rfl mt_8_i150 pp_X1_hasSecond (by decide) rfl rfl rfl (Nat.le_of_ble_eq_true rfl) (Nat.le_of_ble_eq_true rfl) ((k_X1_hasSecond h hI a1).mono (fun r3 h4 p5 => ?_))
  obtain ⟨rfl, x6, rfl, q7 | q7 | q7⟩ := p5
  · show RUN d_X8_atSecond 8 [(0, .inr (.inr (.inl 0))), (1, .inr (.inr (.inl 84))), (2, .inl a1)] [.inl x6] h _
    refine N_if_eq (a := x6.toInt) 17 rfl rfl rfl (fun c8 => ?_) (fun c8 => ?_)
    · refine R_bipush (-2) rfl rfl ?_
      exact R_iret rfl rfl rfl ⟨rfl, _, rfl, trivial⟩
    · exfalso; omega
  · show RUN d_X8_atSecond 8 [(0, .inr (.inr (.inl 0))), (1, .inr (.inr (.inl 84))), (2, .inl a1)] [.inl x6] h _
    refine N_if_eq (a := x6.toInt) 17 rfl rfl rfl (fun c9 => ?_) (fun c9 => ?_)
    · refine R_bipush (-2) rfl rfl ?_
      exact R_iret rfl rfl rfl ⟨rfl, _, rfl, trivial⟩
    · exfalso; omega
  · show RUN d_X8_atSecond 8 [(0, .inr (.inr (.inl 0))), (1, .inr (.inr (.inl 84))), (2, .inl a1)] [.inl x6] h _
    refine N_if_eq (a := x6.toInt) 17 rfl rfl rfl (fun c10 => ?_) (fun c10 => ?_)
    · exfalso; omega
    · refine R_aload_n (k := 1) rfl rfl rfl ?_
      refine R_iload_n (k := 2) rfl rfl rfl ?_
      refine R_iald rfl sh_84 ⟨by omega, by omega⟩ ?_
      refine N_any (fun x11 => ?_)
      refine R_goto 19 rfl rfl ?_
      exact R_iret rfl rfl rfl ⟨rfl, _, rfl, trivial⟩
abbrev q_X8_atSecond_5 (h : PH) (a1 : Int32) : Option PV → PH → Prop := fun r h' => h = h' ∧ ∃ z : Int32, r = some (.inl z) ∧ ((True))
set_option maxHeartbeats 4000000 in
set_option maxRecDepth 100000 in
theorem k_X8_atSecond_5 (h : PH) (hI : INV h) (a1 : Int32) : CALL d_X8_atSecond [.inr (.inr (.inl 0)), .inr (.inr (.inl 85)), .inl a1] h (q_X8_atSecond_5 h a1) := by
  show RUN d_X8_atSecond 0 [(0, .inr (.inr (.inl 0))), (1, .inr (.inr (.inl 85))), (2, .inl a1)] [] h _
  have b1 := i_rng a1
  refine R_aload_n (k := 0) rfl rfl rfl ?_
  refine R_getf_r (j := 3) rfl ft_8_28 sh_0 rfl ?_
  refine R_iload_n (k := 2) rfl rfl rfl ?_
  have b2 : (0 : Int) ≤ (h.1 17 0).toInt ∧ (h.1 17 0).toInt ≤ 60 := hI.1 17 0
  refine R_callV (v := .inr (.inr (.inl 16))) (As := [.inl a1]) (rest := []) rfl mt_8_i150 pp_X1_hasSecond (by decide) rfl rfl rfl (Nat.le_of_ble_eq_true rfl) (Nat.le_of_ble_eq_true rfl) ((k_X1_hasSecond h hI a1).mono (fun r3 h4 p5 => ?_))
  obtain ⟨rfl, x6, rfl, q7 | q7 | q7⟩ := p5
  · show RUN d_X8_atSecond 8 [(0, .inr (.inr (.inl 0))), (1, .inr (.inr (.inl 85))), (2, .inl a1)] [.inl x6] h _
    refine N_if_eq (a := x6.toInt) 17 rfl rfl rfl (fun c8 => ?_) (fun c8 => ?_)
    · refine R_bipush (-2) rfl rfl ?_
      exact R_iret rfl rfl rfl ⟨rfl, _, rfl, trivial⟩
    · exfalso; omega
  · show RUN d_X8_atSecond 8 [(0, .inr (.inr (.inl 0))), (1, .inr (.inr (.inl 85))), (2, .inl a1)] [.inl x6] h _
    refine N_if_eq (a := x6.toInt) 17 rfl rfl rfl (fun c9 => ?_) (fun c9 => ?_)
    · refine R_bipush (-2) rfl rfl ?_
      exact R_iret rfl rfl rfl ⟨rfl, _, rfl, trivial⟩
    · exfalso; omega
  · show RUN d_X8_atSecond 8 [(0, .inr (.inr (.inl 0))), (1, .inr (.inr (.inl 85))), (2, .inl a1)] [.inl x6] h _
    refine N_if_eq (a := x6.toInt) 17 rfl rfl rfl (fun c10 => ?_) (fun c10 => ?_)
    · exfalso; omega
    · refine R_aload_n (k := 1) rfl rfl rfl ?_
      refine R_iload_n (k := 2) rfl rfl rfl ?_
      refine R_iald rfl sh_85 ⟨by omega, by omega⟩ ?_
      refine N_any (fun x11 => ?_)
      refine R_goto 19 rfl rfl ?_
      exact R_iret rfl rfl rfl ⟨rfl, _, rfl, trivial⟩
abbrev q_X8_busy (h : PH) (a0 : Int32) : Option PV → PH → Prop := fun r h' => INV h' ∧ FR [0, 70, 71, 72, 73, 74, 75, 76, 77, 78, 79, 80, 81, 82, 83, 84, 85, 86] h h' ∧ (True) ∧ ∃ z : Int32, r = some (.inl z) ∧ ((True))
set_option maxHeartbeats 4000000 in
set_option maxRecDepth 100000 in
theorem k_X8_busy (h : PH) (hI : INV h) (a0 : Int32) : CALL d_X8_busy [.inr (.inr (.inl 0)), .inl a0] h (q_X8_busy h a0) := by
  show RUN d_X8_busy 0 [(0, .inr (.inr (.inl 0))), (1, .inl a0)] [] h _
  have b1 := i_rng a0
  have fr : FR [0, 70, 71, 72, 73, 74, 75, 76, 77, 78, 79, 80, 81, 82, 83, 84, 85, 86] h h := FR.rf _ _
  refine R_aload_n (k := 0) rfl rfl rfl ?_
  refine R_aload_n (k := 0) rfl rfl rfl ?_
  refine R_callV (v := .inr (.inr (.inl 0))) (As := []) (rest := [.inr (.inr (.inl 0))]) rfl mt_8_i153 pp_X8_told (by decide) rfl rfl rfl (Nat.le_of_ble_eq_true rfl) (Nat.le_of_ble_eq_true rfl) ((k_X8_told h hI).mono (fun r2 h3 p4 => ?_))
  obtain ⟨hJ, fj, -, rfl⟩ := p4
  have f5 := fj
  have fr := fr.trans fj (by decide)
  have hI := hJ
  show RUN d_X8_busy 5 [(0, .inr (.inr (.inl 0))), (1, .inl a0)] [.inr (.inr (.inl 75)), .inr (.inr (.inl 0))] h3 _
  refine R_getf_r (j := 1) rfl ft_8_157 sh_75 rfl ?_
  refine R_iload_n (k := 1) rfl rfl rfl ?_
  refine R_callV (v := .inr (.inr (.inl 0))) (As := [.inr (.inr (.inl 77)), .inl a0]) (rest := []) rfl mt_8_i171 pp_X8_atSecond (by decide) rfl rfl rfl (Nat.le_of_ble_eq_true rfl) (Nat.le_of_ble_eq_true rfl) ((k_X8_atSecond h3 hI a0).mono (fun r6 h7 p8 => ?_))
  obtain ⟨rfl, x9, rfl, q10⟩ := p8
  show RUN d_X8_busy 12 [(0, .inr (.inr (.inl 0))), (1, .inl a0)] [.inl x9] h3 _
  exact R_iret rfl rfl rfl ⟨hI, fr, trivial, _, rfl, trivial⟩
abbrev q_X9_busyOf (h : PH) (a0 : Int32) : Option PV → PH → Prop := fun r h' => h = h' ∧ ∃ z : Int32, r = some (.inl z) ∧ ((True))
set_option maxHeartbeats 4000000 in
set_option maxRecDepth 100000 in
theorem k_X9_busyOf (h : PH) (hI : INV h) (a0 : Int32) (h0a : 0 ≤ a0.toInt ∧ a0.toInt ≤ 59) : CALL d_X9_busyOf [.inr (.inr (.inl 96)), .inl a0] h (q_X9_busyOf h a0) := by
  show RUN d_X9_busyOf 0 [(0, .inr (.inr (.inl 96))), (1, .inl a0)] [] h _
  refine R_iconst 0 rfl rfl ?_
  refine R_istore_n (k := 2) rfl [(2, .inl 0), (0, .inr (.inr (.inl 96))), (1, .inl a0)] rfl rfl (by decide) ?_
  refine R_iconst 0 rfl rfl ?_
  refine R_istore_n (k := 3) rfl [(3, .inl 0), (2, .inl 0), (0, .inr (.inr (.inl 96))), (1, .inl a0)] rfl rfl (by decide) ?_
  have lp2 : ∀ (n1 : Nat) (x3 : Int32) (x4 : Int32), 0 ≤ x4.toInt ∧ x4.toInt ≤ 6 → (6 - x4.toInt).toNat < n1 → RUN d_X9_busyOf 4 [(3, .inl x4), (2, .inl x3), (0, .inr (.inr (.inl 96))), (1, .inl a0)] [] h (q_X9_busyOf h a0) := by
    intro n1
    induction n1 with
    | zero => intro x3 x4 m6 hz; exact absurd hz (Nat.not_lt_zero _)
    | succ n1 ih5 =>
      intro x3 x4 m6 hz
      refine R_iload_n (k := 3) rfl rfl rfl ?_
      refine R_aload_n (k := 0) rfl rfl rfl ?_
      have b7 : (0 : Int) ≤ (h.1 97 5).toInt ∧ (h.1 97 5).toInt ≤ 6 := hI.1 97 5
      have b8 : (0 : Int) ≤ (h.1 97 0).toInt ∧ (h.1 97 0).toInt ≤ 60 := hI.1 97 0
      have e9 : 0 < (h.1 97 5).toInt → 1 ≤ (h.1 97 0).toInt := hI.2.2.2.2.2.1.2.2
      refine R_callV (v := .inr (.inr (.inl 96))) (As := []) (rest := [.inl x4]) rfl mt_9_i133 pp_X9_hands (by decide) rfl rfl rfl (Nat.le_of_ble_eq_true rfl) (Nat.le_of_ble_eq_true rfl) ((k_X9_hands h hI).mono (fun r10 h11 p12 => ?_))
      obtain ⟨rfl, x13, rfl, q14⟩ := p12
      show RUN d_X9_busyOf 9 [(3, .inl x4), (2, .inl x3), (0, .inr (.inr (.inl 96))), (1, .inl a0)] [.inl x13, .inl x4] h _
      refine N_icmp_ge (a := x4.toInt) (b := x13.toInt) 38 rfl rfl rfl rfl (fun c15 => ?_) (fun c15 => ?_)
      · refine R_iload_n (k := 2) rfl rfl rfl ?_
        exact R_iret rfl rfl rfl ⟨rfl, _, rfl, trivial⟩
      · refine R_iload_n (k := 2) rfl rfl rfl ?_
        refine R_aload_n (k := 0) rfl rfl rfl ?_
        refine R_iload_n (k := 3) rfl rfl rfl ?_
        refine R_iload_n (k := 1) rfl rfl rfl ?_
        refine R_callV (v := .inr (.inr (.inl 96))) (As := [.inl x4, .inl a0]) (rest := [.inl x3]) rfl mt_9_i321 pp_X9_heldOf (by decide) rfl rfl rfl (Nat.le_of_ble_eq_true rfl) (Nat.le_of_ble_eq_true rfl) ((k_X9_heldOf h hI x4 a0 (by omega) (by omega)).mono (fun r16 h17 p18 => ?_))
        obtain ⟨rfl, x19, rfl, q20⟩ := p18
        show RUN d_X9_busyOf 19 [(3, .inl x4), (2, .inl x3), (0, .inr (.inr (.inl 96))), (1, .inl a0)] [.inl x19, .inl x3] h _
        refine R_iconst (-1) rfl rfl ?_
        refine N_icmp_eq (a := x19.toInt) (b := (-1)) 29 rfl rfl rfl (by decide) (fun c21 => ?_) (fun c21 => ?_)
        · refine R_iconst 0 rfl rfl ?_
          refine R_ior rfl ?_
          refine N_any (fun x22 => ?_)
          refine R_istore_n (k := 2) rfl [(2, .inl x22), (3, .inl x4), (0, .inr (.inr (.inl 96))), (1, .inl a0)] rfl rfl (by decide) ?_
          refine N_iinc (a := x4.toInt) (c := 1) (fun w => [(3, .inl w), (2, .inl x22), (0, .inr (.inr (.inl 96))), (1, .inl a0)]) rfl rfl (fun _ => rfl) (by decide) rfl (by decide) (by omega) (fun x23 q24 => ?_)
          refine R_goto 4 rfl rfl ?_
          exact RUN_weak (psub_cons rfl (psub_cons rfl (psub_cons rfl (psub_cons rfl (psub_nil _))))) (ih5 x22 x23 (by omega) (by omega))
        · refine R_iconst 1 rfl rfl ?_
          refine R_iload_n (k := 3) rfl rfl rfl ?_
          refine N_ishl1 (b := x4.toInt) rfl rfl (by omega) (fun x25 q26 => ?_)
          refine R_goto 30 rfl rfl ?_
          refine R_ior rfl ?_
          refine N_any (fun x27 => ?_)
          refine R_istore_n (k := 2) rfl [(2, .inl x27), (3, .inl x4), (0, .inr (.inr (.inl 96))), (1, .inl a0)] rfl rfl (by decide) ?_
          refine N_iinc (a := x4.toInt) (c := 1) (fun w => [(3, .inl w), (2, .inl x27), (0, .inr (.inr (.inl 96))), (1, .inl a0)]) rfl rfl (fun _ => rfl) (by decide) rfl (by decide) (by omega) (fun x28 q29 => ?_)
          refine R_goto 4 rfl rfl ?_
          exact RUN_weak (psub_cons rfl (psub_cons rfl (psub_cons rfl (psub_cons rfl (psub_nil _))))) (ih5 x27 x28 (by omega) (by omega))
  exact lp2 _ (0 : Int32) (0 : Int32) (by decide) (Nat.lt_succ_self _)
abbrev q_X9_busy (h : PH) (a0 : Int32) : Option PV → PH → Prop := fun r h' => INV h' ∧ FR [96, 103, 104, 105, 106, 107, 108, 109, 110, 111, 112, 113, 114, 115, 116, 117, 118, 119] h h' ∧ (True) ∧ ∃ z : Int32, r = some (.inl z) ∧ ((True))
set_option maxHeartbeats 4000000 in
set_option maxRecDepth 100000 in
theorem k_X9_busy (h : PH) (hI : INV h) (a0 : Int32) : CALL d_X9_busy [.inr (.inr (.inl 96)), .inl a0] h (q_X9_busy h a0) := by
  show RUN d_X9_busy 0 [(0, .inr (.inr (.inl 96))), (1, .inl a0)] [] h _
  have b1 := i_rng a0
  have fr : FR [96, 103, 104, 105, 106, 107, 108, 109, 110, 111, 112, 113, 114, 115, 116, 117, 118, 119] h h := FR.rf _ _
  refine R_aload_n (k := 0) rfl rfl rfl ?_
  refine R_iload_n (k := 1) rfl rfl rfl ?_
  have b2 : (0 : Int) ≤ (h.1 97 0).toInt ∧ (h.1 97 0).toInt ≤ 60 := hI.1 97 0
  have e3 : 0 < (h.1 97 10).toInt → 1 ≤ (h.1 97 0).toInt := hI.2.2.2.2.2.1.2.1
  refine R_callV (v := .inr (.inr (.inl 96))) (As := [.inl a0]) (rest := []) rfl mt_9_i318 pp_X9_asksSecond (by decide) rfl rfl rfl (Nat.le_of_ble_eq_true rfl) (Nat.le_of_ble_eq_true rfl) ((k_X9_asksSecond h hI a0).mono (fun r4 h5 p6 => ?_))
  obtain ⟨hJ, fj, -, x7, rfl, q8 | q8 | q8 | q8⟩ := p6
  · have f9 := fj
    have fr := fr.trans fj (by decide)
    have hI := hJ
    have s10 : (h5.1 97 10).toInt = (h.1 97 10).toInt := by rw [(f9 97 (by decide)).1]
    have s11 : (h5.1 97 0).toInt = (h.1 97 0).toInt := by rw [(f9 97 (by decide)).1]
    show RUN d_X9_busy 5 [(0, .inr (.inr (.inl 96))), (1, .inl a0)] [.inl x7] h5 _
    refine N_if_eq (a := x7.toInt) 16 rfl rfl rfl (fun c12 => ?_) (fun c12 => ?_)
    · refine R_bipush (-2) rfl rfl ?_
      exact R_iret rfl rfl rfl ⟨hI, fr, trivial, _, rfl, trivial⟩
    · exfalso; omega
  · have f13 := fj
    have fr := fr.trans fj (by decide)
    have hI := hJ
    have s14 : (h5.1 97 10).toInt = (h.1 97 10).toInt := by rw [(f13 97 (by decide)).1]
    have s15 : (h5.1 97 0).toInt = (h.1 97 0).toInt := by rw [(f13 97 (by decide)).1]
    show RUN d_X9_busy 5 [(0, .inr (.inr (.inl 96))), (1, .inl a0)] [.inl x7] h5 _
    refine N_if_eq (a := x7.toInt) 16 rfl rfl rfl (fun c16 => ?_) (fun c16 => ?_)
    · refine R_bipush (-2) rfl rfl ?_
      exact R_iret rfl rfl rfl ⟨hI, fr, trivial, _, rfl, trivial⟩
    · exfalso; omega
  · have f17 := fj
    have fr := fr.trans fj (by decide)
    have hI := hJ
    have s18 : (h5.1 97 10).toInt = (h.1 97 10).toInt := by rw [(f17 97 (by decide)).1]
    have s19 : (h5.1 97 0).toInt = (h.1 97 0).toInt := by rw [(f17 97 (by decide)).1]
    show RUN d_X9_busy 5 [(0, .inr (.inr (.inl 96))), (1, .inl a0)] [.inl x7] h5 _
    refine N_if_eq (a := x7.toInt) 16 rfl rfl rfl (fun c20 => ?_) (fun c20 => ?_)
    · refine R_bipush (-2) rfl rfl ?_
      exact R_iret rfl rfl rfl ⟨hI, fr, trivial, _, rfl, trivial⟩
    · exfalso; omega
  · have f21 := fj
    have fr := fr.trans fj (by decide)
    have hI := hJ
    have s22 : (h5.1 97 10).toInt = (h.1 97 10).toInt := by rw [(f21 97 (by decide)).1]
    have s23 : (h5.1 97 0).toInt = (h.1 97 0).toInt := by rw [(f21 97 (by decide)).1]
    show RUN d_X9_busy 5 [(0, .inr (.inr (.inl 96))), (1, .inl a0)] [.inl x7] h5 _
    refine N_if_eq (a := x7.toInt) 16 rfl rfl rfl (fun c24 => ?_) (fun c24 => ?_)
    · exfalso; omega
    · refine R_aload_n (k := 0) rfl rfl rfl ?_
      refine R_iload_n (k := 1) rfl rfl rfl ?_
      refine R_callV (v := .inr (.inr (.inl 96))) (As := [.inl a0]) (rest := []) rfl mt_9_i324 pp_X9_busyOf (by decide) rfl rfl rfl (Nat.le_of_ble_eq_true rfl) (Nat.le_of_ble_eq_true rfl) ((k_X9_busyOf h5 hI a0 (by omega)).mono (fun r25 h26 p27 => ?_))
      obtain ⟨rfl, x28, rfl, q29⟩ := p27
      show RUN d_X9_busy 13 [(0, .inr (.inr (.inl 96))), (1, .inl a0)] [.inl x28] h5 _
      refine R_goto 18 rfl rfl ?_
      exact R_iret rfl rfl rfl ⟨hI, fr, trivial, _, rfl, trivial⟩
abbrev q_X8_waits (h : PH) (a0 : Int32) : Option PV → PH → Prop := fun r h' => INV h' ∧ FR [0, 70, 71, 72, 73, 74, 75, 76, 77, 78, 79, 80, 81, 82, 83, 84, 85, 86] h h' ∧ (True) ∧ ∃ z : Int32, r = some (.inl z) ∧ ((True))
set_option maxHeartbeats 4000000 in
set_option maxRecDepth 100000 in
theorem k_X8_waits (h : PH) (hI : INV h) (a0 : Int32) : CALL d_X8_waits [.inr (.inr (.inl 0)), .inl a0] h (q_X8_waits h a0) := by
  show RUN d_X8_waits 0 [(0, .inr (.inr (.inl 0))), (1, .inl a0)] [] h _
  have b1 := i_rng a0
  have fr : FR [0, 70, 71, 72, 73, 74, 75, 76, 77, 78, 79, 80, 81, 82, 83, 84, 85, 86] h h := FR.rf _ _
  refine R_aload_n (k := 0) rfl rfl rfl ?_
  refine R_aload_n (k := 0) rfl rfl rfl ?_
  refine R_callV (v := .inr (.inr (.inl 0))) (As := []) (rest := [.inr (.inr (.inl 0))]) rfl mt_8_i153 pp_X8_told (by decide) rfl rfl rfl (Nat.le_of_ble_eq_true rfl) (Nat.le_of_ble_eq_true rfl) ((k_X8_told h hI).mono (fun r2 h3 p4 => ?_))
  obtain ⟨hJ, fj, -, rfl⟩ := p4
  have f5 := fj
  have fr := fr.trans fj (by decide)
  have hI := hJ
  show RUN d_X8_waits 5 [(0, .inr (.inr (.inl 0))), (1, .inl a0)] [.inr (.inr (.inl 75)), .inr (.inr (.inl 0))] h3 _
  refine R_getf_r (j := 2) rfl ft_8_175 sh_75 rfl ?_
  refine R_iload_n (k := 1) rfl rfl rfl ?_
  refine R_callV (v := .inr (.inr (.inl 0))) (As := [.inr (.inr (.inl 78)), .inl a0]) (rest := []) rfl mt_8_i171 pp_X8_atSecond (by decide) rfl rfl rfl (Nat.le_of_ble_eq_true rfl) (Nat.le_of_ble_eq_true rfl) ((k_X8_atSecond_1 h3 hI a0).mono (fun r6 h7 p8 => ?_))
  obtain ⟨rfl, x9, rfl, q10⟩ := p8
  show RUN d_X8_waits 12 [(0, .inr (.inr (.inl 0))), (1, .inl a0)] [.inl x9] h3 _
  exact R_iret rfl rfl rfl ⟨hI, fr, trivial, _, rfl, trivial⟩
abbrev q_X9_waits (h : PH) (a0 : Int32) : Option PV → PH → Prop := fun r h' => INV h' ∧ FR [96, 103, 104, 105, 106, 107, 108, 109, 110, 111, 112, 113, 114, 115, 116, 117, 118, 119] h h' ∧ (True) ∧ ∃ z : Int32, r = some (.inl z) ∧ ((True))
set_option maxHeartbeats 4000000 in
set_option maxRecDepth 100000 in
theorem k_X9_waits (h : PH) (hI : INV h) (a0 : Int32) : CALL d_X9_waits [.inr (.inr (.inl 96)), .inl a0] h (q_X9_waits h a0) := by
  show RUN d_X9_waits 0 [(0, .inr (.inr (.inl 96))), (1, .inl a0)] [] h _
  have b1 := i_rng a0
  have fr : FR [96, 103, 104, 105, 106, 107, 108, 109, 110, 111, 112, 113, 114, 115, 116, 117, 118, 119] h h := FR.rf _ _
  refine R_aload_n (k := 0) rfl rfl rfl ?_
  refine R_iload_n (k := 1) rfl rfl rfl ?_
  have b2 : (0 : Int) ≤ (h.1 97 0).toInt ∧ (h.1 97 0).toInt ≤ 60 := hI.1 97 0
  have e3 : 0 < (h.1 97 10).toInt → 1 ≤ (h.1 97 0).toInt := hI.2.2.2.2.2.1.2.1
  refine R_callV (v := .inr (.inr (.inl 96))) (As := [.inl a0]) (rest := []) rfl mt_9_i318 pp_X9_asksSecond (by decide) rfl rfl rfl (Nat.le_of_ble_eq_true rfl) (Nat.le_of_ble_eq_true rfl) ((k_X9_asksSecond h hI a0).mono (fun r4 h5 p6 => ?_))
  obtain ⟨hJ, fj, -, x7, rfl, q8 | q8 | q8 | q8⟩ := p6
  · have f9 := fj
    have fr := fr.trans fj (by decide)
    have hI := hJ
    have s10 : (h5.1 97 10).toInt = (h.1 97 10).toInt := by rw [(f9 97 (by decide)).1]
    have s11 : (h5.1 97 0).toInt = (h.1 97 0).toInt := by rw [(f9 97 (by decide)).1]
    show RUN d_X9_waits 5 [(0, .inr (.inr (.inl 96))), (1, .inl a0)] [.inl x7] h5 _
    refine N_if_eq (a := x7.toInt) 17 rfl rfl rfl (fun c12 => ?_) (fun c12 => ?_)
    · refine R_bipush (-2) rfl rfl ?_
      exact R_iret rfl rfl rfl ⟨hI, fr, trivial, _, rfl, trivial⟩
    · exfalso; omega
  · have f13 := fj
    have fr := fr.trans fj (by decide)
    have hI := hJ
    have s14 : (h5.1 97 10).toInt = (h.1 97 10).toInt := by rw [(f13 97 (by decide)).1]
    have s15 : (h5.1 97 0).toInt = (h.1 97 0).toInt := by rw [(f13 97 (by decide)).1]
    show RUN d_X9_waits 5 [(0, .inr (.inr (.inl 96))), (1, .inl a0)] [.inl x7] h5 _
    refine N_if_eq (a := x7.toInt) 17 rfl rfl rfl (fun c16 => ?_) (fun c16 => ?_)
    · refine R_bipush (-2) rfl rfl ?_
      exact R_iret rfl rfl rfl ⟨hI, fr, trivial, _, rfl, trivial⟩
    · exfalso; omega
  · have f17 := fj
    have fr := fr.trans fj (by decide)
    have hI := hJ
    have s18 : (h5.1 97 10).toInt = (h.1 97 10).toInt := by rw [(f17 97 (by decide)).1]
    have s19 : (h5.1 97 0).toInt = (h.1 97 0).toInt := by rw [(f17 97 (by decide)).1]
    show RUN d_X9_waits 5 [(0, .inr (.inr (.inl 96))), (1, .inl a0)] [.inl x7] h5 _
    refine N_if_eq (a := x7.toInt) 17 rfl rfl rfl (fun c20 => ?_) (fun c20 => ?_)
    · refine R_bipush (-2) rfl rfl ?_
      exact R_iret rfl rfl rfl ⟨hI, fr, trivial, _, rfl, trivial⟩
    · exfalso; omega
  · have f21 := fj
    have fr := fr.trans fj (by decide)
    have hI := hJ
    have s22 : (h5.1 97 10).toInt = (h.1 97 10).toInt := by rw [(f21 97 (by decide)).1]
    have s23 : (h5.1 97 0).toInt = (h.1 97 0).toInt := by rw [(f21 97 (by decide)).1]
    show RUN d_X9_waits 5 [(0, .inr (.inr (.inl 96))), (1, .inl a0)] [.inl x7] h5 _
    refine N_if_eq (a := x7.toInt) 17 rfl rfl rfl (fun c24 => ?_) (fun c24 => ?_)
    · exfalso; omega
    · refine R_aload_n (k := 0) rfl rfl rfl ?_
      refine R_getf_r (j := 31) rfl ft_9_73 sh_96 rfl ?_
      refine R_iload_n (k := 1) rfl rfl rfl ?_
      refine R_iald rfl sh_116 ⟨by omega, by omega⟩ ?_
      refine N_any (fun x25 => ?_)
      refine R_goto 19 rfl rfl ?_
      exact R_iret rfl rfl rfl ⟨hI, fr, trivial, _, rfl, trivial⟩
abbrev q_X8_secondsWith_1 (h : PH) (a1 : Int32) : Option PV → PH → Prop := fun r h' => h = h' ∧ ∃ z : Int32, r = some (.inl z) ∧ (((-5) ≤ z.toInt ∧ z.toInt ≤ 60))
set_option maxHeartbeats 4000000 in
set_option maxRecDepth 100000 in
theorem k_X8_secondsWith_1 (h : PH) (hI : INV h) (a1 : Int32) (h1a : 0 ≤ a1.toInt ∧ a1.toInt ≤ 5) : CALL d_X8_secondsWith [.inr (.inr (.inl 0)), .inr (.inr (.inl 77)), .inl a1] h (q_X8_secondsWith_1 h a1) := by
  show RUN d_X8_secondsWith 0 [(0, .inr (.inr (.inl 0))), (1, .inr (.inr (.inl 77))), (2, .inl a1)] [] h _
  refine R_iconst 0 rfl rfl ?_
  refine R_istore_n (k := 3) rfl [(3, .inl 0), (0, .inr (.inr (.inl 0))), (1, .inr (.inr (.inl 77))), (2, .inl a1)] rfl rfl (by decide) ?_
  refine R_iconst 0 rfl rfl ?_
  refine R_istore (k := 4) [(4, .inl 0), (3, .inl 0), (0, .inr (.inr (.inl 0))), (1, .inr (.inr (.inl 77))), (2, .inl a1)] rfl rfl (by decide) ?_
  have lp2 : ∀ (n1 : Nat) (x3 : Int32) (x4 : Int32), (-5) ≤ x3.toInt ∧ x3.toInt ≤ 60 → 0 ≤ x4.toInt ∧ x4.toInt ≤ 60 → x3.toInt ≤ x4.toInt + 0 → a1.toInt ≤ x3.toInt + 5 → (60 - x4.toInt).toNat < n1 → RUN d_X8_secondsWith 5 [(4, .inl x4), (3, .inl x3), (0, .inr (.inr (.inl 0))), (1, .inr (.inr (.inl 77))), (2, .inl a1)] [] h (q_X8_secondsWith_1 h a1) := by
    intro n1
    induction n1 with
    | zero => intro x3 x4 m6 m7 m8 m9 hz; exact absurd hz (Nat.not_lt_zero _)
    | succ n1 ih5 =>
      intro x3 x4 m6 m7 m8 m9 hz
      refine R_iload (k := 4) rfl rfl ?_
      refine R_aload_n (k := 0) rfl rfl rfl ?_
      refine R_getf_r (j := 3) rfl ft_8_28 sh_0 rfl ?_
      refine R_getf_r (j := 0) rfl ft_8_109 sh_16 rfl ?_
      refine R_iconst 0 rfl rfl ?_
      refine R_iald rfl sh_17 (by decide) ?_
      have b10 : (0 : Int) ≤ (h.1 17 0).toInt ∧ (h.1 17 0).toInt ≤ 60 := hI.1 17 0
      show RUN d_X8_secondsWith 16 [(4, .inl x4), (3, .inl x3), (0, .inr (.inr (.inl 0))), (1, .inr (.inr (.inl 77))), (2, .inl a1)] [.inl (h.1 17 0), .inl x4] h _
      refine N_icmp_ge (a := x4.toInt) (b := (h.1 17 0).toInt) 40 rfl rfl rfl rfl (fun c11 => ?_) (fun c11 => ?_)
      · refine R_iload_n (k := 3) rfl rfl rfl ?_
        exact R_iret rfl rfl rfl ⟨rfl, _, rfl, by omega⟩
      · refine R_aload_n (k := 1) rfl rfl rfl ?_
        refine R_iload (k := 4) rfl rfl ?_
        refine R_iald rfl sh_77 ⟨by omega, by omega⟩ ?_
        refine N_any (fun x12 => ?_)
        refine N_i2l rfl (fun w13 q14 => ?_)
        refine R_iload_n (k := 2) rfl rfl rfl ?_
        refine R_callS (As := [.inr (.inl w13), .inl a1]) (rest := []) rfl mt_8_i160 (by decide) pp_X8_hasBit (by decide) rfl rfl (Nat.le_of_ble_eq_true rfl) (Nat.le_of_ble_eq_true rfl) ((k_X8_hasBit h hI w13 a1).mono (fun r15 h16 p17 => ?_))
        obtain ⟨rfl, x18, rfl, q19 | q19⟩ := p17
        · show RUN d_X8_secondsWith 28 [(4, .inl x4), (3, .inl x3), (0, .inr (.inr (.inl 0))), (1, .inr (.inr (.inl 77))), (2, .inl a1)] [.inl x18] h _
          refine N_if_eq (a := x18.toInt) 34 rfl rfl rfl (fun c20 => ?_) (fun c20 => ?_)
          · refine N_iinc (a := x4.toInt) (c := 1) (fun w => [(4, .inl w), (3, .inl x3), (0, .inr (.inr (.inl 0))), (1, .inr (.inr (.inl 77))), (2, .inl a1)]) rfl rfl (fun _ => rfl) (by decide) rfl (by decide) (by omega) (fun x21 q22 => ?_)
            refine R_goto 5 rfl rfl ?_
            exact RUN_weak (psub_cons rfl (psub_cons rfl (psub_cons rfl (psub_cons rfl (psub_cons rfl (psub_nil _)))))) (ih5 x3 x21 (by omega) (by omega) (by omega) (by omega) (by omega))
          · exfalso; omega
        · show RUN d_X8_secondsWith 28 [(4, .inl x4), (3, .inl x3), (0, .inr (.inr (.inl 0))), (1, .inr (.inr (.inl 77))), (2, .inl a1)] [.inl x18] h _
          refine N_if_eq (a := x18.toInt) 34 rfl rfl rfl (fun c23 => ?_) (fun c23 => ?_)
          · exfalso; omega
          · refine N_iinc (a := x3.toInt) (c := 1) (fun w => [(3, .inl w), (4, .inl x4), (0, .inr (.inr (.inl 0))), (1, .inr (.inr (.inl 77))), (2, .inl a1)]) rfl rfl (fun _ => rfl) (by decide) rfl (by decide) (by omega) (fun x24 q25 => ?_)
            refine N_iinc (a := x4.toInt) (c := 1) (fun w => [(4, .inl w), (3, .inl x24), (0, .inr (.inr (.inl 0))), (1, .inr (.inr (.inl 77))), (2, .inl a1)]) rfl rfl (fun _ => rfl) (by decide) rfl (by decide) (by omega) (fun x26 q27 => ?_)
            refine R_goto 5 rfl rfl ?_
            exact RUN_weak (psub_cons rfl (psub_cons rfl (psub_cons rfl (psub_cons rfl (psub_cons rfl (psub_nil _)))))) (ih5 x24 x26 (by omega) (by omega) (by omega) (by omega) (by omega))
  have k28 : (0 : Int32).toInt = 0 := by decide
  have k29 : (0 : Int32).toInt = 0 := by decide
  exact lp2 _ (0 : Int32) (0 : Int32) (by decide) (by decide) (by omega) (by omega) (Nat.lt_succ_self _)
abbrev q_X8_secondsWith (h : PH) (a1 : Int32) : Option PV → PH → Prop := fun r h' => h = h' ∧ ∃ z : Int32, r = some (.inl z) ∧ (((-5) ≤ z.toInt ∧ z.toInt ≤ 60))
set_option maxHeartbeats 4000000 in
set_option maxRecDepth 100000 in
theorem k_X8_secondsWith (h : PH) (hI : INV h) (a1 : Int32) (h1a : 0 ≤ a1.toInt ∧ a1.toInt ≤ 5) : CALL d_X8_secondsWith [.inr (.inr (.inl 0)), .inr (.inr (.inl 78)), .inl a1] h (q_X8_secondsWith h a1) := by
  show RUN d_X8_secondsWith 0 [(0, .inr (.inr (.inl 0))), (1, .inr (.inr (.inl 78))), (2, .inl a1)] [] h _
  refine R_iconst 0 rfl rfl ?_
  refine R_istore_n (k := 3) rfl [(3, .inl 0), (0, .inr (.inr (.inl 0))), (1, .inr (.inr (.inl 78))), (2, .inl a1)] rfl rfl (by decide) ?_
  refine R_iconst 0 rfl rfl ?_
  refine R_istore (k := 4) [(4, .inl 0), (3, .inl 0), (0, .inr (.inr (.inl 0))), (1, .inr (.inr (.inl 78))), (2, .inl a1)] rfl rfl (by decide) ?_
  have lp2 : ∀ (n1 : Nat) (x3 : Int32) (x4 : Int32), (-5) ≤ x3.toInt ∧ x3.toInt ≤ 60 → 0 ≤ x4.toInt ∧ x4.toInt ≤ 60 → x3.toInt ≤ x4.toInt + 0 → a1.toInt ≤ x3.toInt + 5 → (60 - x4.toInt).toNat < n1 → RUN d_X8_secondsWith 5 [(4, .inl x4), (3, .inl x3), (0, .inr (.inr (.inl 0))), (1, .inr (.inr (.inl 78))), (2, .inl a1)] [] h (q_X8_secondsWith h a1) := by
    intro n1
    induction n1 with
    | zero => intro x3 x4 m6 m7 m8 m9 hz; exact absurd hz (Nat.not_lt_zero _)
    | succ n1 ih5 =>
      intro x3 x4 m6 m7 m8 m9 hz
      refine R_iload (k := 4) rfl rfl ?_
      refine R_aload_n (k := 0) rfl rfl rfl ?_
      refine R_getf_r (j := 3) rfl ft_8_28 sh_0 rfl ?_
      refine R_getf_r (j := 0) rfl ft_8_109 sh_16 rfl ?_
      refine R_iconst 0 rfl rfl ?_
      refine R_iald rfl sh_17 (by decide) ?_
      have b10 : (0 : Int) ≤ (h.1 17 0).toInt ∧ (h.1 17 0).toInt ≤ 60 := hI.1 17 0
      show RUN d_X8_secondsWith 16 [(4, .inl x4), (3, .inl x3), (0, .inr (.inr (.inl 0))), (1, .inr (.inr (.inl 78))), (2, .inl a1)] [.inl (h.1 17 0), .inl x4] h _
      refine N_icmp_ge (a := x4.toInt) (b := (h.1 17 0).toInt) 40 rfl rfl rfl rfl (fun c11 => ?_) (fun c11 => ?_)
      · refine R_iload_n (k := 3) rfl rfl rfl ?_
        exact R_iret rfl rfl rfl ⟨rfl, _, rfl, by omega⟩
      · refine R_aload_n (k := 1) rfl rfl rfl ?_
        refine R_iload (k := 4) rfl rfl ?_
        refine R_iald rfl sh_78 ⟨by omega, by omega⟩ ?_
        refine N_any (fun x12 => ?_)
        refine N_i2l rfl (fun w13 q14 => ?_)
        refine R_iload_n (k := 2) rfl rfl rfl ?_
        refine R_callS (As := [.inr (.inl w13), .inl a1]) (rest := []) rfl mt_8_i160 (by decide) pp_X8_hasBit (by decide) rfl rfl (Nat.le_of_ble_eq_true rfl) (Nat.le_of_ble_eq_true rfl) ((k_X8_hasBit h hI w13 a1).mono (fun r15 h16 p17 => ?_))
        obtain ⟨rfl, x18, rfl, q19 | q19⟩ := p17
        · show RUN d_X8_secondsWith 28 [(4, .inl x4), (3, .inl x3), (0, .inr (.inr (.inl 0))), (1, .inr (.inr (.inl 78))), (2, .inl a1)] [.inl x18] h _
          refine N_if_eq (a := x18.toInt) 34 rfl rfl rfl (fun c20 => ?_) (fun c20 => ?_)
          · refine N_iinc (a := x4.toInt) (c := 1) (fun w => [(4, .inl w), (3, .inl x3), (0, .inr (.inr (.inl 0))), (1, .inr (.inr (.inl 78))), (2, .inl a1)]) rfl rfl (fun _ => rfl) (by decide) rfl (by decide) (by omega) (fun x21 q22 => ?_)
            refine R_goto 5 rfl rfl ?_
            exact RUN_weak (psub_cons rfl (psub_cons rfl (psub_cons rfl (psub_cons rfl (psub_cons rfl (psub_nil _)))))) (ih5 x3 x21 (by omega) (by omega) (by omega) (by omega) (by omega))
          · exfalso; omega
        · show RUN d_X8_secondsWith 28 [(4, .inl x4), (3, .inl x3), (0, .inr (.inr (.inl 0))), (1, .inr (.inr (.inl 78))), (2, .inl a1)] [.inl x18] h _
          refine N_if_eq (a := x18.toInt) 34 rfl rfl rfl (fun c23 => ?_) (fun c23 => ?_)
          · exfalso; omega
          · refine N_iinc (a := x3.toInt) (c := 1) (fun w => [(3, .inl w), (4, .inl x4), (0, .inr (.inr (.inl 0))), (1, .inr (.inr (.inl 78))), (2, .inl a1)]) rfl rfl (fun _ => rfl) (by decide) rfl (by decide) (by omega) (fun x24 q25 => ?_)
            refine N_iinc (a := x4.toInt) (c := 1) (fun w => [(4, .inl w), (3, .inl x24), (0, .inr (.inr (.inl 0))), (1, .inr (.inr (.inl 78))), (2, .inl a1)]) rfl rfl (fun _ => rfl) (by decide) rfl (by decide) (by omega) (fun x26 q27 => ?_)
            refine R_goto 5 rfl rfl ?_
            exact RUN_weak (psub_cons rfl (psub_cons rfl (psub_cons rfl (psub_cons rfl (psub_cons rfl (psub_nil _)))))) (ih5 x24 x26 (by omega) (by omega) (by omega) (by omega) (by omega))
  have k28 : (0 : Int32).toInt = 0 := by decide
  have k29 : (0 : Int32).toInt = 0 := by decide
  exact lp2 _ (0 : Int32) (0 : Int32) (by decide) (by decide) (by omega) (by omega) (Nat.lt_succ_self _)
abbrev q_X8_secondsWith_2 (h : PH) (a1 : Int32) : Option PV → PH → Prop := fun r h' => h = h' ∧ ∃ z : Int32, r = some (.inl z) ∧ (((-5) ≤ z.toInt ∧ z.toInt ≤ 60))
set_option maxHeartbeats 4000000 in
set_option maxRecDepth 100000 in
theorem k_X8_secondsWith_2 (h : PH) (hI : INV h) (a1 : Int32) (h1a : 0 ≤ a1.toInt ∧ a1.toInt ≤ 5) : CALL d_X8_secondsWith [.inr (.inr (.inl 0)), .inr (.inr (.inl 80)), .inl a1] h (q_X8_secondsWith_2 h a1) := by
  show RUN d_X8_secondsWith 0 [(0, .inr (.inr (.inl 0))), (1, .inr (.inr (.inl 80))), (2, .inl a1)] [] h _
  refine R_iconst 0 rfl rfl ?_
  refine R_istore_n (k := 3) rfl [(3, .inl 0), (0, .inr (.inr (.inl 0))), (1, .inr (.inr (.inl 80))), (2, .inl a1)] rfl rfl (by decide) ?_
  refine R_iconst 0 rfl rfl ?_
  refine R_istore (k := 4) [(4, .inl 0), (3, .inl 0), (0, .inr (.inr (.inl 0))), (1, .inr (.inr (.inl 80))), (2, .inl a1)] rfl rfl (by decide) ?_
  have lp2 : ∀ (n1 : Nat) (x3 : Int32) (x4 : Int32), (-5) ≤ x3.toInt ∧ x3.toInt ≤ 60 → 0 ≤ x4.toInt ∧ x4.toInt ≤ 60 → x3.toInt ≤ x4.toInt + 0 → a1.toInt ≤ x3.toInt + 5 → (60 - x4.toInt).toNat < n1 → RUN d_X8_secondsWith 5 [(4, .inl x4), (3, .inl x3), (0, .inr (.inr (.inl 0))), (1, .inr (.inr (.inl 80))), (2, .inl a1)] [] h (q_X8_secondsWith_2 h a1) := by
    intro n1
    induction n1 with
    | zero => intro x3 x4 m6 m7 m8 m9 hz; exact absurd hz (Nat.not_lt_zero _)
    | succ n1 ih5 =>
      intro x3 x4 m6 m7 m8 m9 hz
      refine R_iload (k := 4) rfl rfl ?_
      refine R_aload_n (k := 0) rfl rfl rfl ?_
      refine R_getf_r (j := 3) rfl ft_8_28 sh_0 rfl ?_
      refine R_getf_r (j := 0) rfl ft_8_109 sh_16 rfl ?_
      refine R_iconst 0 rfl rfl ?_
      refine R_iald rfl sh_17 (by decide) ?_
      have b10 : (0 : Int) ≤ (h.1 17 0).toInt ∧ (h.1 17 0).toInt ≤ 60 := hI.1 17 0
      show RUN d_X8_secondsWith 16 [(4, .inl x4), (3, .inl x3), (0, .inr (.inr (.inl 0))), (1, .inr (.inr (.inl 80))), (2, .inl a1)] [.inl (h.1 17 0), .inl x4] h _
      refine N_icmp_ge (a := x4.toInt) (b := (h.1 17 0).toInt) 40 rfl rfl rfl rfl (fun c11 => ?_) (fun c11 => ?_)
      · refine R_iload_n (k := 3) rfl rfl rfl ?_
        exact R_iret rfl rfl rfl ⟨rfl, _, rfl, by omega⟩
      · refine R_aload_n (k := 1) rfl rfl rfl ?_
        refine R_iload (k := 4) rfl rfl ?_
        refine R_iald rfl sh_80 ⟨by omega, by omega⟩ ?_
        refine N_any (fun x12 => ?_)
        refine N_i2l rfl (fun w13 q14 => ?_)
        refine R_iload_n (k := 2) rfl rfl rfl ?_
        refine R_callS (As := [.inr (.inl w13), .inl a1]) (rest := []) rfl mt_8_i160 (by decide) pp_X8_hasBit (by decide) rfl rfl (Nat.le_of_ble_eq_true rfl) (Nat.le_of_ble_eq_true rfl) ((k_X8_hasBit h hI w13 a1).mono (fun r15 h16 p17 => ?_))
        obtain ⟨rfl, x18, rfl, q19 | q19⟩ := p17
        · show RUN d_X8_secondsWith 28 [(4, .inl x4), (3, .inl x3), (0, .inr (.inr (.inl 0))), (1, .inr (.inr (.inl 80))), (2, .inl a1)] [.inl x18] h _
          refine N_if_eq (a := x18.toInt) 34 rfl rfl rfl (fun c20 => ?_) (fun c20 => ?_)
          · refine N_iinc (a := x4.toInt) (c := 1) (fun w => [(4, .inl w), (3, .inl x3), (0, .inr (.inr (.inl 0))), (1, .inr (.inr (.inl 80))), (2, .inl a1)]) rfl rfl (fun _ => rfl) (by decide) rfl (by decide) (by omega) (fun x21 q22 => ?_)
            refine R_goto 5 rfl rfl ?_
            exact RUN_weak (psub_cons rfl (psub_cons rfl (psub_cons rfl (psub_cons rfl (psub_cons rfl (psub_nil _)))))) (ih5 x3 x21 (by omega) (by omega) (by omega) (by omega) (by omega))
          · exfalso; omega
        · show RUN d_X8_secondsWith 28 [(4, .inl x4), (3, .inl x3), (0, .inr (.inr (.inl 0))), (1, .inr (.inr (.inl 80))), (2, .inl a1)] [.inl x18] h _
          refine N_if_eq (a := x18.toInt) 34 rfl rfl rfl (fun c23 => ?_) (fun c23 => ?_)
          · exfalso; omega
          · refine N_iinc (a := x3.toInt) (c := 1) (fun w => [(3, .inl w), (4, .inl x4), (0, .inr (.inr (.inl 0))), (1, .inr (.inr (.inl 80))), (2, .inl a1)]) rfl rfl (fun _ => rfl) (by decide) rfl (by decide) (by omega) (fun x24 q25 => ?_)
            refine N_iinc (a := x4.toInt) (c := 1) (fun w => [(4, .inl w), (3, .inl x24), (0, .inr (.inr (.inl 0))), (1, .inr (.inr (.inl 80))), (2, .inl a1)]) rfl rfl (fun _ => rfl) (by decide) rfl (by decide) (by omega) (fun x26 q27 => ?_)
            refine R_goto 5 rfl rfl ?_
            exact RUN_weak (psub_cons rfl (psub_cons rfl (psub_cons rfl (psub_cons rfl (psub_cons rfl (psub_nil _)))))) (ih5 x24 x26 (by omega) (by omega) (by omega) (by omega) (by omega))
  have k28 : (0 : Int32).toInt = 0 := by decide
  have k29 : (0 : Int32).toInt = 0 := by decide
  exact lp2 _ (0 : Int32) (0 : Int32) (by decide) (by decide) (by omega) (by omega) (Nat.lt_succ_self _)
abbrev q_X8_stays (h : PH) (a0 : Int32) : Option PV → PH → Prop := fun r h' => INV h' ∧ FR [0, 70, 71, 72, 73, 74, 75, 76, 77, 78, 79, 80, 81, 82, 83, 84, 85, 86] h h' ∧ (True) ∧ ∃ z : Int32, r = some (.inl z) ∧ (((-5) ≤ z.toInt ∧ z.toInt ≤ 60))
set_option maxHeartbeats 4000000 in
set_option maxRecDepth 100000 in
theorem k_X8_stays (h : PH) (hI : INV h) (a0 : Int32) : CALL d_X8_stays [.inr (.inr (.inl 0)), .inl a0] h (q_X8_stays h a0) := by
  show RUN d_X8_stays 0 [(0, .inr (.inr (.inl 0))), (1, .inl a0)] [] h _
  have b1 := i_rng a0
  have fr : FR [0, 70, 71, 72, 73, 74, 75, 76, 77, 78, 79, 80, 81, 82, 83, 84, 85, 86] h h := FR.rf _ _
  refine R_aload_n (k := 0) rfl rfl rfl ?_
  refine R_getf_r (j := 3) rfl ft_8_28 sh_0 rfl ?_
  refine R_iload_n (k := 1) rfl rfl rfl ?_
  have b2 : (0 : Int) ≤ (h.1 17 5).toInt ∧ (h.1 17 5).toInt ≤ 6 := hI.1 17 5
  refine R_callV (v := .inr (.inr (.inl 16))) (As := [.inl a0]) (rest := []) rfl mt_8_i119 pp_X1_hasHand (by decide) rfl rfl rfl (Nat.le_of_ble_eq_true rfl) (Nat.le_of_ble_eq_true rfl) ((k_X1_hasHand h hI a0).mono (fun r3 h4 p5 => ?_))
  obtain ⟨rfl, x6, rfl, q7 | q7 | q7⟩ := p5
  · show RUN d_X8_stays 8 [(0, .inr (.inr (.inl 0))), (1, .inl a0)] [.inl x6] h _
    refine N_if_eq (a := x6.toInt) 26 rfl rfl rfl (fun c8 => ?_) (fun c8 => ?_)
    · refine R_bipush (-2) rfl rfl ?_
      exact R_iret rfl rfl rfl ⟨hI, fr, trivial, _, rfl, by rw [show ((-2) : Int32).toInt = (-2) from rfl] <;> omega⟩
    · exfalso; omega
  · show RUN d_X8_stays 8 [(0, .inr (.inr (.inl 0))), (1, .inl a0)] [.inl x6] h _
    refine N_if_eq (a := x6.toInt) 26 rfl rfl rfl (fun c9 => ?_) (fun c9 => ?_)
    · refine R_bipush (-2) rfl rfl ?_
      exact R_iret rfl rfl rfl ⟨hI, fr, trivial, _, rfl, by rw [show ((-2) : Int32).toInt = (-2) from rfl] <;> omega⟩
    · exfalso; omega
  · show RUN d_X8_stays 8 [(0, .inr (.inr (.inl 0))), (1, .inl a0)] [.inl x6] h _
    refine N_if_eq (a := x6.toInt) 26 rfl rfl rfl (fun c10 => ?_) (fun c10 => ?_)
    · exfalso; omega
    · refine R_aload_n (k := 0) rfl rfl rfl ?_
      refine R_aload_n (k := 0) rfl rfl rfl ?_
      refine R_callV (v := .inr (.inr (.inl 0))) (As := []) (rest := [.inr (.inr (.inl 0))]) rfl mt_8_i153 pp_X8_told (by decide) rfl rfl rfl (Nat.le_of_ble_eq_true rfl) (Nat.le_of_ble_eq_true rfl) ((k_X8_told h hI).mono (fun r11 h12 p13 => ?_))
      obtain ⟨hJ, fj, -, rfl⟩ := p13
      have f14 := fj
      have fr := fr.trans fj (by decide)
      have hI := hJ
      have s15 : (h12.1 17 5).toInt = (h.1 17 5).toInt := by rw [(f14 17 (by decide)).1]
      show RUN d_X8_stays 16 [(0, .inr (.inr (.inl 0))), (1, .inl a0)] [.inr (.inr (.inl 75)), .inr (.inr (.inl 0))] h12 _
      refine R_getf_r (j := 2) rfl ft_8_175 sh_75 rfl ?_
      refine R_iload_n (k := 1) rfl rfl rfl ?_
      refine R_callV (v := .inr (.inr (.inl 0))) (As := [.inr (.inr (.inl 78)), .inl a0]) (rest := []) rfl mt_8_i200 pp_X8_secondsWith (by decide) rfl rfl rfl (Nat.le_of_ble_eq_true rfl) (Nat.le_of_ble_eq_true rfl) ((k_X8_secondsWith h12 hI a0 (by omega)).mono (fun r16 h17 p18 => ?_))
      obtain ⟨rfl, x19, rfl, q20⟩ := p18
      show RUN d_X8_stays 23 [(0, .inr (.inr (.inl 0))), (1, .inl a0)] [.inl x19] h12 _
      refine R_goto 28 rfl rfl ?_
      exact R_iret rfl rfl rfl ⟨hI, fr, trivial, _, rfl, by omega⟩
abbrev q_X9_asksHand (h : PH) (a0 : Int32) : Option PV → PH → Prop := fun r h' => INV h' ∧ FR [96, 103, 104, 105, 106, 107, 108, 109, 110, 111, 112, 113, 114, 115, 116, 117, 118, 119] h h' ∧ (True) ∧ ∃ z : Int32, r = some (.inl z) ∧ ((z.toInt = 0 ∧ (h.1 97 10).toInt ≤ 0) ∨ (z.toInt = 0 ∧ a0.toInt ≤ (-1) ∧ 1 ≤ (h.1 97 0).toInt ∧ (h.1 97 0).toInt ≤ 60 ∧ 1 ≤ (h.1 97 10).toInt) ∨ (z.toInt = 0 ∧ 0 ≤ a0.toInt ∧ 1 ≤ (h.1 97 0).toInt ∧ (h.1 97 0).toInt ≤ 60 ∧ 1 ≤ (h.1 97 10).toInt ∧ (h.1 97 5).toInt ≤ a0.toInt + 0) ∨ (z.toInt = 1 ∧ 0 ≤ a0.toInt ∧ a0.toInt ≤ 5 ∧ 1 ≤ (h.1 97 0).toInt ∧ (h.1 97 0).toInt ≤ 60 ∧ 1 ≤ (h.1 97 5).toInt ∧ (h.1 97 5).toInt ≤ 6 ∧ 1 ≤ (h.1 97 10).toInt ∧ a0.toInt ≤ (h.1 97 5).toInt + (-1)))
set_option maxHeartbeats 4000000 in
set_option maxRecDepth 100000 in
theorem k_X9_asksHand (h : PH) (hI : INV h) (a0 : Int32) : CALL d_X9_asksHand [.inr (.inr (.inl 96)), .inl a0] h (q_X9_asksHand h a0) := by
  show RUN d_X9_asksHand 0 [(0, .inr (.inr (.inl 96))), (1, .inl a0)] [] h _
  have b1 := i_rng a0
  have fr : FR [96, 103, 104, 105, 106, 107, 108, 109, 110, 111, 112, 113, 114, 115, 116, 117, 118, 119] h h := FR.rf _ _
  refine R_aload_n (k := 0) rfl rfl rfl ?_
  have b2 : (0 : Int) ≤ (h.1 97 0).toInt ∧ (h.1 97 0).toInt ≤ 60 := hI.1 97 0
  have e3 : 0 < (h.1 97 10).toInt → 1 ≤ (h.1 97 0).toInt := hI.2.2.2.2.2.1.2.1
  refine R_callV (v := .inr (.inr (.inl 96))) (As := []) (rest := []) rfl mt_9_i307 pp_X9_asksBrigade (by decide) rfl rfl rfl (Nat.le_of_ble_eq_true rfl) (Nat.le_of_ble_eq_true rfl) ((k_X9_asksBrigade h hI).mono (fun r4 h5 p6 => ?_))
  obtain ⟨hJ, fj, -, x7, rfl, q8 | q8⟩ := p6
  · have f9 := fj
    have fr := fr.trans fj (by decide)
    have hI := hJ
    have s10 : (h5.1 97 10).toInt = (h.1 97 10).toInt := by rw [(f9 97 (by decide)).1]
    have s11 : (h5.1 97 0).toInt = (h.1 97 0).toInt := by rw [(f9 97 (by decide)).1]
    show RUN d_X9_asksHand 4 [(0, .inr (.inr (.inl 96))), (1, .inl a0)] [.inl x7] h5 _
    refine N_if_eq (a := x7.toInt) 19 rfl rfl rfl (fun c12 => ?_) (fun c12 => ?_)
    · refine R_iconst 0 rfl rfl ?_
      have s13 : (h5.1 97 0).toInt = (h.1 97 0).toInt := by rw [(fr 97 (by decide)).1]
      have s14 : (h5.1 97 5).toInt = (h.1 97 5).toInt := by rw [(fr 97 (by decide)).1]
      have s15 : (h5.1 97 10).toInt = (h.1 97 10).toInt := by rw [(fr 97 (by decide)).1]
      exact R_iret rfl rfl rfl ⟨hI, fr, trivial, _, rfl, by rw [show (0 : Int32).toInt = 0 from rfl] <;> omega⟩
    · exfalso; omega
  · have f16 := fj
    have fr := fr.trans fj (by decide)
    have hI := hJ
    have s17 : (h5.1 97 10).toInt = (h.1 97 10).toInt := by rw [(f16 97 (by decide)).1]
    have s18 : (h5.1 97 0).toInt = (h.1 97 0).toInt := by rw [(f16 97 (by decide)).1]
    show RUN d_X9_asksHand 4 [(0, .inr (.inr (.inl 96))), (1, .inl a0)] [.inl x7] h5 _
    refine N_if_eq (a := x7.toInt) 19 rfl rfl rfl (fun c19 => ?_) (fun c19 => ?_)
    · exfalso; omega
    · refine R_aload_n (k := 0) rfl rfl rfl ?_
      refine R_iload_n (k := 1) rfl rfl rfl ?_
      have b20 : (0 : Int) ≤ (h5.1 97 5).toInt ∧ (h5.1 97 5).toInt ≤ 6 := hI.1 97 5
      have e21 : 0 < (h5.1 97 5).toInt → 1 ≤ (h5.1 97 0).toInt := hI.2.2.2.2.2.1.2.2
      refine R_callV (v := .inr (.inr (.inl 96))) (As := [.inl a0]) (rest := []) rfl mt_9_i314 pp_X9_isHand (by decide) rfl rfl rfl (Nat.le_of_ble_eq_true rfl) (Nat.le_of_ble_eq_true rfl) ((k_X9_isHand h5 hI a0).mono (fun r22 h23 p24 => ?_))
      obtain ⟨rfl, x25, rfl, q26 | q26 | q26⟩ := p24
      · show RUN d_X9_asksHand 12 [(0, .inr (.inr (.inl 96))), (1, .inl a0)] [.inl x25] h5 _
        refine N_if_eq (a := x25.toInt) 19 rfl rfl rfl (fun c27 => ?_) (fun c27 => ?_)
        · refine R_iconst 0 rfl rfl ?_
          have s28 : (h5.1 97 0).toInt = (h.1 97 0).toInt := by rw [(fr 97 (by decide)).1]
          have s29 : (h5.1 97 5).toInt = (h.1 97 5).toInt := by rw [(fr 97 (by decide)).1]
          have s30 : (h5.1 97 10).toInt = (h.1 97 10).toInt := by rw [(fr 97 (by decide)).1]
          exact R_iret rfl rfl rfl ⟨hI, fr, trivial, _, rfl, by rw [show (0 : Int32).toInt = 0 from rfl] <;> omega⟩
        · exfalso; omega
      · show RUN d_X9_asksHand 12 [(0, .inr (.inr (.inl 96))), (1, .inl a0)] [.inl x25] h5 _
        refine N_if_eq (a := x25.toInt) 19 rfl rfl rfl (fun c31 => ?_) (fun c31 => ?_)
        · refine R_iconst 0 rfl rfl ?_
          have s32 : (h5.1 97 0).toInt = (h.1 97 0).toInt := by rw [(fr 97 (by decide)).1]
          have s33 : (h5.1 97 5).toInt = (h.1 97 5).toInt := by rw [(fr 97 (by decide)).1]
          have s34 : (h5.1 97 10).toInt = (h.1 97 10).toInt := by rw [(fr 97 (by decide)).1]
          exact R_iret rfl rfl rfl ⟨hI, fr, trivial, _, rfl, by rw [show (0 : Int32).toInt = 0 from rfl] <;> omega⟩
        · exfalso; omega
      · show RUN d_X9_asksHand 12 [(0, .inr (.inr (.inl 96))), (1, .inl a0)] [.inl x25] h5 _
        refine N_if_eq (a := x25.toInt) 19 rfl rfl rfl (fun c35 => ?_) (fun c35 => ?_)
        · exfalso; omega
        · refine R_iconst 1 rfl rfl ?_
          refine R_goto 20 rfl rfl ?_
          have s36 : (h5.1 97 0).toInt = (h.1 97 0).toInt := by rw [(fr 97 (by decide)).1]
          have s37 : (h5.1 97 5).toInt = (h.1 97 5).toInt := by rw [(fr 97 (by decide)).1]
          have s38 : (h5.1 97 10).toInt = (h.1 97 10).toInt := by rw [(fr 97 (by decide)).1]
          exact R_iret rfl rfl rfl ⟨hI, fr, trivial, _, rfl, by rw [show (1 : Int32).toInt = 1 from rfl] <;> omega⟩
