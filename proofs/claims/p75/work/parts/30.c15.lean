abbrev q_X1_carryOut (h : PH) (a0 : Int32) : Option PV → PH → Prop := fun r h' => INV h' ∧ FR [19, 21] h h' ∧ (True) ∧ r = none
set_option maxHeartbeats 4000000 in
set_option maxRecDepth 100000 in
theorem k_X1_carryOut (h : PH) (hI : INV h) (a0 : Int32) (h0a : 0 ≤ a0.toInt ∧ a0.toInt ≤ 29) : CALL d_X1_carryOut [.inr (.inr (.inl 16)), .inl a0] h (q_X1_carryOut h a0) := by
  show RUN d_X1_carryOut 0 [(0, .inr (.inr (.inl 16))), (1, .inl a0)] [] h _
  have fr : FR [19, 21] h h := FR.rf _ _
  refine R_aload_n (k := 0) rfl rfl rfl ?_
  refine R_getf_r (j := 8) rfl ft_1_37 sh_16 rfl ?_
  refine R_iload_n (k := 1) rfl rfl rfl ?_
  refine R_iald rfl sh_25 ⟨by omega, by omega⟩ ?_
  refine N_any (fun x1 => ?_)
  refine R_istore_n (k := 2) rfl [(2, .inl x1), (0, .inr (.inr (.inl 16))), (1, .inl a0)] rfl rfl (by decide) ?_
  refine R_aload_n (k := 0) rfl rfl rfl ?_
  refine R_iload_n (k := 2) rfl rfl rfl ?_
  have b2 : (0 : Int) ≤ (h.1 17 5).toInt ∧ (h.1 17 5).toInt ≤ 6 := hI.1 17 5
  refine R_callV (v := .inr (.inr (.inl 16))) (As := [.inl x1]) (rest := []) rfl mt_1_i66 pp_X1_hasHand (by decide) rfl rfl rfl (Nat.le_of_ble_eq_true rfl) (Nat.le_of_ble_eq_true rfl) ((k_X1_hasHand h hI x1).mono (fun r3 h4 p5 => ?_))
  obtain ⟨rfl, x6, rfl, q7 | q7 | q7⟩ := p5
  · show RUN d_X1_carryOut 12 [(2, .inl x1), (0, .inr (.inr (.inl 16))), (1, .inl a0)] [.inl x6] h _
    refine N_if_ne (a := x6.toInt) 16 rfl rfl rfl (fun c8 => ?_) (fun c8 => ?_)
    · exfalso; omega
    · exact R_vret rfl rfl ⟨hI, fr, trivial, rfl⟩
  · show RUN d_X1_carryOut 12 [(2, .inl x1), (0, .inr (.inr (.inl 16))), (1, .inl a0)] [.inl x6] h _
    refine N_if_ne (a := x6.toInt) 16 rfl rfl rfl (fun c9 => ?_) (fun c9 => ?_)
    · exfalso; omega
    · exact R_vret rfl rfl ⟨hI, fr, trivial, rfl⟩
  · show RUN d_X1_carryOut 12 [(2, .inl x1), (0, .inr (.inr (.inl 16))), (1, .inl a0)] [.inl x6] h _
    refine N_if_ne (a := x6.toInt) 16 rfl rfl rfl (fun c10 => ?_) (fun c10 => ?_)
    · refine R_aload_n (k := 0) rfl rfl rfl ?_
      refine R_getf_r (j := 9) rfl ft_1_40 sh_16 rfl ?_
      refine R_iload_n (k := 1) rfl rfl rfl ?_
      refine R_iald rfl sh_26 ⟨by omega, by omega⟩ ?_
      refine N_any (fun x11 => ?_)
      refine R_iconst (-1) rfl rfl ?_
      refine N_icmp_ne (a := x11.toInt) (b := (-1)) 41 rfl rfl rfl (by decide) (fun c12 => ?_) (fun c12 => ?_)
      · refine R_lconst 1 rfl rfl ?_
        refine R_aload_n (k := 0) rfl rfl rfl ?_
        refine R_getf_r (j := 10) rfl ft_1_43 sh_16 rfl ?_
        refine R_iload_n (k := 1) rfl rfl rfl ?_
        refine R_iald rfl sh_27 ⟨by omega, by omega⟩ ?_
        refine N_any (fun x13 => ?_)
        refine R_lshl rfl ?_
        refine N_anyL (fun w14 => ?_)
        refine R_lconst 1 rfl rfl ?_
        refine R_lsub rfl ?_
        refine N_anyL (fun w15 => ?_)
        refine R_lstore_n (k := 3) rfl [(3, .inr (.inl w15)), (2, .inl x1), (0, .inr (.inr (.inl 16))), (1, .inl a0)] rfl rfl (by decide) ?_
        refine R_aload_n (k := 0) rfl rfl rfl ?_
        refine R_getf_r (j := 4) rfl ft_1_24 sh_16 rfl ?_
        refine R_iload_n (k := 2) rfl rfl rfl ?_
        refine R_dup2 rfl ?_
        refine R_lald rfl sh_21 ⟨by omega, by omega⟩ ?_
        refine N_anyL (fun w16 => ?_)
        refine R_lload_n (k := 3) rfl rfl rfl ?_
        refine R_aload_n (k := 0) rfl rfl rfl ?_
        refine R_getf_r (j := 9) rfl ft_1_40 sh_16 rfl ?_
        refine R_iload_n (k := 1) rfl rfl rfl ?_
        refine R_iald rfl sh_26 ⟨by omega, by omega⟩ ?_
        refine N_any (fun x17 => ?_)
        refine R_lshl rfl ?_
        refine N_anyL (fun w18 => ?_)
        refine R_lor rfl ?_
        refine N_anyL (fun w19 => ?_)
        refine K_last (a := x1.toInt) rfl sh_21 rfl ⟨by omega, by omega⟩ hI fr (by decide) (fun h20 g21 hI fr => ?_)
        have s22 : (h20.1 17 5).toInt = (h.1 17 5).toInt := by rw [g21, wL_fst]
        exact R_vret rfl rfl ⟨hI, fr, trivial, rfl⟩
      · refine R_aload_n (k := 0) rfl rfl rfl ?_
        refine R_getf_r (j := 2) rfl ft_1_18 sh_16 rfl ?_
        refine R_iload_n (k := 2) rfl rfl rfl ?_
        refine R_aload_n (k := 0) rfl rfl rfl ?_
        refine R_getf_r (j := 10) rfl ft_1_43 sh_16 rfl ?_
        refine R_iload_n (k := 1) rfl rfl rfl ?_
        refine R_iald rfl sh_27 ⟨by omega, by omega⟩ ?_
        refine N_any (fun x23 => ?_)
        refine K_iast (a := x1.toInt) (lo := (-2147483648)) (hi' := 2147483647) rfl sh_19 rfl ⟨by omega, by omega⟩ hI (by decide) rfl (i_rng _) fr (by decide) (fun h24 g25 hI fr => ?_)
        have s26 : (h24.1 17 5).toInt = (h.1 17 5).toInt := by rw [g25, wI_ne _ _ _ (by decide)]
        refine R_goto 69 rfl rfl ?_
        exact R_vret rfl rfl ⟨hI, fr, trivial, rfl⟩
    · exfalso; omega
abbrev q_X1_addAct (h : PH) (a0 : Int32) (a1 : Int32) (a2 : Int32) : Option PV → PH → Prop := fun r h' => INV h' ∧ FR [17, 19, 21, 25, 26, 27] h h' ∧ ((h'.1 17 5).toInt = (h.1 17 5).toInt ∧ (h'.1 17 0).toInt = (h.1 17 0).toInt ∧ True) ∧ r = none
set_option maxHeartbeats 4000000 in
set_option maxRecDepth 100000 in
theorem k_X1_addAct (h : PH) (hI : INV h) (a0 : Int32) (a1 : Int32) (a2 : Int32) (h0a : 0 ≤ a0.toInt ∧ a0.toInt ≤ 5) (h1a : (-1) ≤ a1.toInt ∧ a1.toInt ≤ 59) (h2a : 1 ≤ a2.toInt ∧ a2.toInt ≤ 9) : CALL d_X1_addAct [.inr (.inr (.inl 16)), .inl a0, .inl a1, .inl a2] h (q_X1_addAct h a0 a1 a2) := by
  show RUN d_X1_addAct 0 [(0, .inr (.inr (.inl 16))), (1, .inl a0), (2, .inl a1), (3, .inl a2)] [] h _
  have fr : FR [17, 19, 21, 25, 26, 27] h h := FR.rf _ _
  have b1 : (0 : Int) ≤ (h.1 17 5).toInt ∧ (h.1 17 5).toInt ≤ 6 := hI.1 17 5
  have b2 : (0 : Int) ≤ (h.1 17 0).toInt ∧ (h.1 17 0).toInt ≤ 60 := hI.1 17 0
  have b3 : (0 : Int) ≤ (h.1 17 9).toInt ∧ (h.1 17 9).toInt ≤ 30 := hI.1 17 9
  refine R_aload_n (k := 0) rfl rfl rfl ?_
  refine R_getf_r (j := 0) rfl ft_1_9 sh_16 rfl ?_
  refine R_bipush 9 rfl rfl ?_
  refine R_iald rfl sh_17 (by decide) ?_
  show RUN d_X1_addAct 7 [(0, .inr (.inr (.inl 16))), (1, .inl a0), (2, .inl a1), (3, .inl a2)] [.inl (h.1 17 9)] h _
  refine R_istore (k := 4) [(4, .inl (h.1 17 9)), (0, .inr (.inr (.inl 16))), (1, .inl a0), (2, .inl a1), (3, .inl a2)] rfl rfl (by decide) ?_
  refine R_iload (k := 4) rfl rfl ?_
  refine R_bipush 30 rfl rfl ?_
  refine N_icmp_ge (a := (h.1 17 9).toInt) (b := 30) 57 rfl rfl rfl (by decide) (fun c4 => ?_) (fun c4 => ?_)
  · exact R_vret rfl rfl ⟨hI, fr, ⟨by omega, by omega, trivial⟩, rfl⟩
  · refine R_aload_n (k := 0) rfl rfl rfl ?_
    refine R_getf_r (j := 8) rfl ft_1_37 sh_16 rfl ?_
    refine R_iload (k := 4) rfl rfl ?_
    refine R_iload_n (k := 1) rfl rfl rfl ?_
    refine K_iast (a := (h.1 17 9).toInt) (lo := (-2147483648)) (hi' := 2147483647) rfl sh_25 rfl ⟨by omega, by omega⟩ hI (by decide) rfl (i_rng _) fr (by decide) (fun h5 g6 hI fr => ?_)
    have s7 : (h5.1 17 5).toInt = (h.1 17 5).toInt := by rw [g6, wI_ne _ _ _ (by decide)]
    have s8 : (h5.1 17 0).toInt = (h.1 17 0).toInt := by rw [g6, wI_ne _ _ _ (by decide)]
    have s9 : (h5.1 17 9).toInt = (h.1 17 9).toInt := by rw [g6, wI_ne _ _ _ (by decide)]
    refine R_aload_n (k := 0) rfl rfl rfl ?_
    refine R_getf_r (j := 9) rfl ft_1_40 sh_16 rfl ?_
    refine R_iload (k := 4) rfl rfl ?_
    refine R_iload_n (k := 2) rfl rfl rfl ?_
    refine K_iast (a := (h.1 17 9).toInt) (lo := (-2147483648)) (hi' := 2147483647) rfl sh_26 rfl ⟨by omega, by omega⟩ hI (by decide) rfl (i_rng _) fr (by decide) (fun h10 g11 hI fr => ?_)
    have s12 : (h10.1 17 5).toInt = (h5.1 17 5).toInt := by rw [g11, wI_ne _ _ _ (by decide)]
    have s13 : (h10.1 17 0).toInt = (h5.1 17 0).toInt := by rw [g11, wI_ne _ _ _ (by decide)]
    have s14 : (h10.1 17 9).toInt = (h5.1 17 9).toInt := by rw [g11, wI_ne _ _ _ (by decide)]
    refine R_aload_n (k := 0) rfl rfl rfl ?_
    refine R_getf_r (j := 10) rfl ft_1_43 sh_16 rfl ?_
    refine R_iload (k := 4) rfl rfl ?_
    refine R_iload_n (k := 3) rfl rfl rfl ?_
    refine K_iast (a := (h.1 17 9).toInt) (lo := (-2147483648)) (hi' := 2147483647) rfl sh_27 rfl ⟨by omega, by omega⟩ hI (by decide) rfl (i_rng _) fr (by decide) (fun h15 g16 hI fr => ?_)
    have s17 : (h15.1 17 5).toInt = (h10.1 17 5).toInt := by rw [g16, wI_ne _ _ _ (by decide)]
    have s18 : (h15.1 17 0).toInt = (h10.1 17 0).toInt := by rw [g16, wI_ne _ _ _ (by decide)]
    have s19 : (h15.1 17 9).toInt = (h10.1 17 9).toInt := by rw [g16, wI_ne _ _ _ (by decide)]
    refine R_aload_n (k := 0) rfl rfl rfl ?_
    refine R_getf_r (j := 0) rfl ft_1_9 sh_16 rfl ?_
    refine R_bipush 9 rfl rfl ?_
    refine R_iload (k := 4) rfl rfl ?_
    refine R_iconst 1 rfl rfl ?_
    refine N_iadd (a := (h.1 17 9).toInt) (b := 1) rfl rfl (by decide) (by omega) (fun x20 q21 => ?_)
    refine K_iasp (a := 9) (lo := 0) (hi' := 30) rfl sh_17 (by decide) (by decide) hI (by decide) rfl (by omega) fr (by decide) (fun h22 g23 hI fr => ?_)
    have s24 : (h22.1 17 5).toInt = (h15.1 17 5).toInt := by rw [g23, show (9 : Int32).toNatClampNeg = 9 from rfl, wI_at (by decide)]
    have s25 : (h22.1 17 0).toInt = (h15.1 17 0).toInt := by rw [g23, show (9 : Int32).toNatClampNeg = 9 from rfl, wI_at (by decide)]
    have s26 : (h22.1 17 9).toInt = x20.toInt := by rw [g23, show (9 : Int32).toNatClampNeg = 9 from rfl, wI_is]
    refine R_aload_n (k := 0) rfl rfl rfl ?_
    refine R_iload (k := 4) rfl rfl ?_
    refine R_callV (v := .inr (.inr (.inl 16))) (As := [.inl (h.1 17 9)]) (rest := []) rfl mt_1_i62 pp_X1_carryOut (by decide) rfl rfl rfl (Nat.le_of_ble_eq_true rfl) (Nat.le_of_ble_eq_true rfl) ((k_X1_carryOut h22 hI (h.1 17 9) (by omega)).mono (fun r27 h28 p29 => ?_))
    obtain ⟨hJ, fj, -, rfl⟩ := p29
    have f30 := fj
    have fr := fr.trans fj (by decide)
    have hI := hJ
    have s31 : (h28.1 17 5).toInt = (h22.1 17 5).toInt := by rw [(f30 17 (by decide)).1]
    have s32 : (h28.1 17 0).toInt = (h22.1 17 0).toInt := by rw [(f30 17 (by decide)).1]
    have s33 : (h28.1 17 9).toInt = (h22.1 17 9).toInt := by rw [(f30 17 (by decide)).1]
    show RUN d_X1_addAct 57 [(4, .inl (h.1 17 9)), (0, .inr (.inr (.inl 16))), (1, .inl a0), (2, .inl a1), (3, .inl a2)] [] h28 _
    exact R_vret rfl rfl ⟨hI, fr, ⟨by omega, by omega, trivial⟩, rfl⟩
abbrev q_X8_rest (h : PH) (a0 : Int32) (a1 : Int32) (a2 : Int32) : Option PV → PH → Prop := fun r h' => INV h' ∧ FR [0, 17, 19, 21, 25, 26, 27, 70, 71, 72, 73, 74, 75, 76, 77, 78, 79, 80, 81, 82, 83, 84, 85, 86] h h' ∧ (True) ∧ ∃ z : Int32, r = some (.inl z) ∧ ((True))
set_option maxHeartbeats 4000000 in
set_option maxRecDepth 100000 in
theorem k_X8_rest (h : PH) (hI : INV h) (a0 : Int32) (a1 : Int32) (a2 : Int32) : CALL d_X8_rest [.inr (.inr (.inl 0)), .inl a0, .inl a1, .inl a2] h (q_X8_rest h a0 a1 a2) := by
  show RUN d_X8_rest 0 [(0, .inr (.inr (.inl 0))), (1, .inl a0), (2, .inl a1), (3, .inl a2)] [] h _
  have b1 := i_rng a0
  have b2 := i_rng a1
  have b3 := i_rng a2
  have fr : FR [0, 17, 19, 21, 25, 26, 27, 70, 71, 72, 73, 74, 75, 76, 77, 78, 79, 80, 81, 82, 83, 84, 85, 86] h h := FR.rf _ _
  refine R_aload_n (k := 0) rfl rfl rfl ?_
  refine R_getf_r (j := 3) rfl ft_8_28 sh_0 rfl ?_
  refine R_iload_n (k := 1) rfl rfl rfl ?_
  have b4 : (0 : Int) ≤ (h.1 17 5).toInt ∧ (h.1 17 5).toInt ≤ 6 := hI.1 17 5
  refine R_callV (v := .inr (.inr (.inl 16))) (As := [.inl a0]) (rest := []) rfl mt_8_i119 pp_X1_hasHand (by decide) rfl rfl rfl (Nat.le_of_ble_eq_true rfl) (Nat.le_of_ble_eq_true rfl) ((k_X1_hasHand h hI a0).mono (fun r5 h6 p7 => ?_))
  obtain ⟨rfl, x8, rfl, q9 | q9 | q9⟩ := p7
  · show RUN d_X8_rest 8 [(0, .inr (.inr (.inl 0))), (1, .inl a0), (2, .inl a1), (3, .inl a2)] [.inl x8] h _
    refine N_if_eq (a := x8.toInt) 33 rfl rfl rfl (fun c10 => ?_) (fun c10 => ?_)
    · refine R_bipush (-2) rfl rfl ?_
      exact R_iret rfl rfl rfl ⟨hI, fr, trivial, _, rfl, trivial⟩
    · exfalso; omega
  · show RUN d_X8_rest 8 [(0, .inr (.inr (.inl 0))), (1, .inl a0), (2, .inl a1), (3, .inl a2)] [.inl x8] h _
    refine N_if_eq (a := x8.toInt) 33 rfl rfl rfl (fun c11 => ?_) (fun c11 => ?_)
    · refine R_bipush (-2) rfl rfl ?_
      exact R_iret rfl rfl rfl ⟨hI, fr, trivial, _, rfl, trivial⟩
    · exfalso; omega
  · show RUN d_X8_rest 8 [(0, .inr (.inr (.inl 0))), (1, .inl a0), (2, .inl a1), (3, .inl a2)] [.inl x8] h _
    refine N_if_eq (a := x8.toInt) 33 rfl rfl rfl (fun c12 => ?_) (fun c12 => ?_)
    · exfalso; omega
    · refine R_aload_n (k := 0) rfl rfl rfl ?_
      refine R_getf_r (j := 3) rfl ft_8_28 sh_0 rfl ?_
      refine R_iload_n (k := 2) rfl rfl rfl ?_
      have b13 : (0 : Int) ≤ (h.1 17 0).toInt ∧ (h.1 17 0).toInt ≤ 60 := hI.1 17 0
      refine R_callV (v := .inr (.inr (.inl 16))) (As := [.inl a1]) (rest := []) rfl mt_8_i150 pp_X1_hasSecond (by decide) rfl rfl rfl (Nat.le_of_ble_eq_true rfl) (Nat.le_of_ble_eq_true rfl) ((k_X1_hasSecond h hI a1).mono (fun r14 h15 p16 => ?_))
      obtain ⟨rfl, x17, rfl, q18 | q18 | q18⟩ := p16
      · show RUN d_X8_rest 19 [(0, .inr (.inr (.inl 0))), (1, .inl a0), (2, .inl a1), (3, .inl a2)] [.inl x17] h _
        refine N_if_eq (a := x17.toInt) 33 rfl rfl rfl (fun c19 => ?_) (fun c19 => ?_)
        · refine R_bipush (-2) rfl rfl ?_
          exact R_iret rfl rfl rfl ⟨hI, fr, trivial, _, rfl, trivial⟩
        · exfalso; omega
      · show RUN d_X8_rest 19 [(0, .inr (.inr (.inl 0))), (1, .inl a0), (2, .inl a1), (3, .inl a2)] [.inl x17] h _
        refine N_if_eq (a := x17.toInt) 33 rfl rfl rfl (fun c20 => ?_) (fun c20 => ?_)
        · refine R_bipush (-2) rfl rfl ?_
          exact R_iret rfl rfl rfl ⟨hI, fr, trivial, _, rfl, trivial⟩
        · exfalso; omega
      · show RUN d_X8_rest 19 [(0, .inr (.inr (.inl 0))), (1, .inl a0), (2, .inl a1), (3, .inl a2)] [.inl x17] h _
        refine N_if_eq (a := x17.toInt) 33 rfl rfl rfl (fun c21 => ?_) (fun c21 => ?_)
        · exfalso; omega
        · refine R_iload_n (k := 3) rfl rfl rfl ?_
          refine R_iconst 1 rfl rfl ?_
          refine N_icmp_lt (a := a2.toInt) (b := 1) 33 rfl rfl rfl (by decide) (fun c22 => ?_) (fun c22 => ?_)
          · refine R_bipush (-2) rfl rfl ?_
            exact R_iret rfl rfl rfl ⟨hI, fr, trivial, _, rfl, trivial⟩
          · refine R_iload_n (k := 3) rfl rfl rfl ?_
            refine R_bipush 9 rfl rfl ?_
            refine N_icmp_le (a := a2.toInt) (b := 9) 36 rfl rfl rfl (by decide) (fun c23 => ?_) (fun c23 => ?_)
            · refine R_aload_n (k := 0) rfl rfl rfl ?_
              refine R_getf_r (j := 3) rfl ft_8_28 sh_0 rfl ?_
              refine R_getf_r (j := 0) rfl ft_8_109 sh_16 rfl ?_
              refine R_bipush 9 rfl rfl ?_
              refine R_iald rfl sh_17 (by decide) ?_
              have b24 : (0 : Int) ≤ (h.1 17 9).toInt ∧ (h.1 17 9).toInt ≤ 30 := hI.1 17 9
              show RUN d_X8_rest 46 [(0, .inr (.inr (.inl 0))), (1, .inl a0), (2, .inl a1), (3, .inl a2)] [.inl (h.1 17 9)] h _
              refine R_bipush 30 rfl rfl ?_
              refine N_icmp_lt (a := (h.1 17 9).toInt) (b := 30) 54 rfl rfl rfl (by decide) (fun c25 => ?_) (fun c25 => ?_)
              · refine R_aload_n (k := 0) rfl rfl rfl ?_
                refine R_getf_r (j := 3) rfl ft_8_28 sh_0 rfl ?_
                refine R_iload_n (k := 1) rfl rfl rfl ?_
                refine R_iload_n (k := 2) rfl rfl rfl ?_
                refine R_iload_n (k := 3) rfl rfl rfl ?_
                refine R_callV (v := .inr (.inr (.inl 16))) (As := [.inl a0, .inl a1, .inl a2]) (rest := []) rfl mt_8_i373 pp_X1_addAct (by decide) rfl rfl rfl (Nat.le_of_ble_eq_true rfl) (Nat.le_of_ble_eq_true rfl) ((k_X1_addAct h hI a0 a1 a2 (by omega) (by omega) (by omega)).mono (fun r26 h27 p28 => ?_))
                obtain ⟨hJ, fj, ⟨kp29, kp30, -⟩, rfl⟩ := p28
                have f31 := fj
                have fr := fr.trans fj (by decide)
                have hI := hJ
                show RUN d_X8_rest 64 [(0, .inr (.inr (.inl 0))), (1, .inl a0), (2, .inl a1), (3, .inl a2)] [] h27 _
                refine R_aload_n (k := 0) rfl rfl rfl ?_
                refine R_callV (v := .inr (.inr (.inl 0))) (As := []) (rest := []) rfl mt_8_i377 pp_X8_forget (by decide) rfl rfl rfl (Nat.le_of_ble_eq_true rfl) (Nat.le_of_ble_eq_true rfl) ((k_X8_forget h27 hI).mono (fun r32 h33 p34 => ?_))
                obtain ⟨hJ, fj, -, rfl⟩ := p34
                have f35 := fj
                have fr := fr.trans fj (by decide)
                have hI := hJ
                have s36 : (h33.1 17 5).toInt = (h27.1 17 5).toInt := by rw [(f35 17 (by decide)).1]
                have s37 : (h33.1 17 0).toInt = (h27.1 17 0).toInt := by rw [(f35 17 (by decide)).1]
                show RUN d_X8_rest 68 [(0, .inr (.inr (.inl 0))), (1, .inl a0), (2, .inl a1), (3, .inl a2)] [] h33 _
                refine R_aload_n (k := 0) rfl rfl rfl ?_
                refine R_callV (v := .inr (.inr (.inl 0))) (As := []) (rest := []) rfl mt_8_i153 pp_X8_told (by decide) rfl rfl rfl (Nat.le_of_ble_eq_true rfl) (Nat.le_of_ble_eq_true rfl) ((k_X8_told h33 hI).mono (fun r38 h39 p40 => ?_))
                obtain ⟨hJ, fj, -, rfl⟩ := p40
                have f41 := fj
                have fr := fr.trans fj (by decide)
                have hI := hJ
                have s42 : (h39.1 17 5).toInt = (h33.1 17 5).toInt := by rw [(f41 17 (by decide)).1]
                have s43 : (h39.1 17 0).toInt = (h33.1 17 0).toInt := by rw [(f41 17 (by decide)).1]
                show RUN d_X8_rest 72 [(0, .inr (.inr (.inl 0))), (1, .inl a0), (2, .inl a1), (3, .inl a2)] [.inr (.inr (.inl 75))] h39 _
                refine R_getf_r (j := 7) rfl ft_8_187 sh_75 rfl ?_
                refine R_aload_n (k := 0) rfl rfl rfl ?_
                refine R_getf_r (j := 3) rfl ft_8_28 sh_0 rfl ?_
                refine R_getf_r (j := 0) rfl ft_8_109 sh_16 rfl ?_
                refine R_iconst 0 rfl rfl ?_
                refine R_iald rfl sh_17 (by decide) ?_
                show RUN d_X8_rest 84 [(0, .inr (.inr (.inl 0))), (1, .inl a0), (2, .inl a1), (3, .inl a2)] [.inl (h39.1 17 0), .inr (.inr (.inl 83))] h39 _
                refine R_iconst 1 rfl rfl ?_
                refine N_isub (a := (h39.1 17 0).toInt) (b := 1) rfl rfl (by decide) (by omega) (fun x44 q45 => ?_)
                refine R_iald rfl sh_83 ⟨by omega, by omega⟩ ?_
                refine N_any (fun x46 => ?_)
                exact R_iret rfl rfl rfl ⟨hI, fr, trivial, _, rfl, trivial⟩
              · refine R_bipush (-5) rfl rfl ?_
                exact R_iret rfl rfl rfl ⟨hI, fr, trivial, _, rfl, trivial⟩
            · refine R_bipush (-2) rfl rfl ?_
              exact R_iret rfl rfl rfl ⟨hI, fr, trivial, _, rfl, trivial⟩
abbrev q_X9_keepAct (h : PH) (a0 : Int32) : Option PV → PH → Prop := fun r h' => INV h' ∧ FR [97] h h' ∧ ((h'.1 97 5).toInt = (h.1 97 5).toInt ∧ (h'.1 97 0).toInt = (h.1 97 0).toInt ∧ True) ∧ ∃ z : Int32, r = some (.inl z) ∧ (((-5) ≤ z.toInt ∧ z.toInt ≤ 0))
set_option maxHeartbeats 4000000 in
set_option maxRecDepth 100000 in
theorem k_X9_keepAct (h : PH) (hI : INV h) (a0 : Int32) (h0a : 101 ≤ a0.toInt ∧ a0.toInt ≤ 65909) (xp0 : (a0.toInt ≥ 100 ∧ a0.toInt ≤ 699 ∧ 1 ≤ a0.toInt % 100 ∧ a0.toInt % 100 ≤ 6) ∨ (10000 ≤ a0.toInt ∧ a0.toInt ≤ 69999)) : CALL d_X9_keepAct [.inr (.inr (.inl 96)), .inl a0] h (q_X9_keepAct h a0) := by
  show RUN d_X9_keepAct 0 [(0, .inr (.inr (.inl 96))), (1, .inl a0)] [] h _
  have fr : FR [97] h h := FR.rf _ _
  have b1 : (0 : Int) ≤ (h.1 97 5).toInt ∧ (h.1 97 5).toInt ≤ 6 := hI.1 97 5
  have b2 : (0 : Int) ≤ (h.1 97 0).toInt ∧ (h.1 97 0).toInt ≤ 60 := hI.1 97 0
  have e3 : 0 < (h.1 97 5).toInt → 1 ≤ (h.1 97 0).toInt := hI.2.2.2.2.2.1.2.2
  refine R_aload_n (k := 0) rfl rfl rfl ?_
  refine R_getf_r (j := 1) rfl ft_9_9 sh_96 rfl ?_
  refine R_bipush 9 rfl rfl ?_
  refine R_iald rfl sh_97 (by decide) ?_
  have b4 : (0 : Int) ≤ (h.1 97 9).toInt ∧ (h.1 97 9).toInt ≤ 30 := hI.1 97 9
  show RUN d_X9_keepAct 7 [(0, .inr (.inr (.inl 96))), (1, .inl a0)] [.inl (h.1 97 9)] h _
  refine R_bipush 30 rfl rfl ?_
  refine N_icmp_ne (a := (h.1 97 9).toInt) (b := 30) 15 rfl rfl rfl (by decide) (fun c5 => ?_) (fun c5 => ?_)
  · refine R_aload_n (k := 0) rfl rfl rfl ?_
    refine R_getf_r (j := 1) rfl ft_9_9 sh_96 rfl ?_
    refine R_bipush 38 rfl rfl ?_
    refine R_aload_n (k := 0) rfl rfl rfl ?_
    refine R_getf_r (j := 1) rfl ft_9_9 sh_96 rfl ?_
    refine R_bipush 9 rfl rfl ?_
    refine R_iald rfl sh_97 (by decide) ?_
    show RUN d_X9_keepAct 28 [(0, .inr (.inr (.inl 96))), (1, .inl a0)] [.inl (h.1 97 9), .inl 38, .inr (.inr (.inl 97))] h _
    refine N_iadd (a := 38) (b := (h.1 97 9).toInt) rfl (by decide) rfl (by omega) (fun x6 q7 => ?_)
    refine R_iload_n (k := 1) rfl rfl rfl ?_
    refine K_ias38 (i := x6) rfl hI (by omega) (by omega) fr (by decide) (fun h8 g9 hI fr => ?_)
    have s11 : (h8.1 97 5).toInt = (h.1 97 5).toInt := by rw [g9, wI_at (ne38 (h := h) (i := x6) (by decide) (by omega))]
    have s12 : (h8.1 97 0).toInt = (h.1 97 0).toInt := by rw [g9, wI_at (ne38 (h := h) (i := x6) (by decide) (by omega))]
    have s13 : (h8.1 97 9).toInt = (h.1 97 9).toInt := by rw [g9, wI_at (ne38 (h := h) (i := x6) (by decide) (by omega))]
    have a3810 : h8.1 97 x6.toNatClampNeg = a0 := by rw [g9, wI_is]
    refine R_aload_n (k := 0) rfl rfl rfl ?_
    refine R_getf_r (j := 1) rfl ft_9_9 sh_96 rfl ?_
    refine R_bipush 9 rfl rfl ?_
    refine R_dup2 rfl ?_
    refine R_iald rfl sh_97 (by decide) ?_
    show RUN d_X9_keepAct 39 [(0, .inr (.inr (.inl 96))), (1, .inl a0)] [.inl (h8.1 97 9), .inl 9, .inr (.inr (.inl 97))] h8 _
    refine R_iconst 1 rfl rfl ?_
    refine N_iadd (a := (h8.1 97 9).toInt) (b := 1) rfl rfl (by decide) (by omega) (fun x14 q15 => ?_)
    refine K_ias9s (i := x6) rfl hI (by omega) (by rw [a3810]; exact xp0) (by omega) (by omega) fr (by decide) (fun h16 g17 hI fr => ?_)
    have s18 : (h16.1 97 5).toInt = (h8.1 97 5).toInt := by rw [g17, show (9 : Int32).toNatClampNeg = 9 from rfl, wI_at (by decide)]
    have s19 : (h16.1 97 0).toInt = (h8.1 97 0).toInt := by rw [g17, show (9 : Int32).toNatClampNeg = 9 from rfl, wI_at (by decide)]
    refine R_iconst 0 rfl rfl ?_
    exact R_iret rfl rfl rfl ⟨hI, fr, ⟨by omega, by omega, trivial⟩, _, rfl, by rw [show (0 : Int32).toInt = 0 from rfl] <;> omega⟩
  · refine R_bipush (-5) rfl rfl ?_
    exact R_iret rfl rfl rfl ⟨hI, fr, ⟨by omega, by omega, trivial⟩, _, rfl, by rw [show ((-5) : Int32).toInt = (-5) from rfl] <;> omega⟩
abbrev q_X9_rest (h : PH) (a0 : Int32) (a1 : Int32) (a2 : Int32) : Option PV → PH → Prop := fun r h' => INV h' ∧ FR [96, 97, 103, 104, 105, 106, 107, 108, 109, 110, 111, 112, 113, 114, 115, 116, 117, 118, 119] h h' ∧ (True) ∧ ∃ z : Int32, r = some (.inl z) ∧ ((True))
set_option maxHeartbeats 4000000 in
set_option maxRecDepth 100000 in
theorem k_X9_rest (h : PH) (hI : INV h) (a0 : Int32) (a1 : Int32) (a2 : Int32) : CALL d_X9_rest [.inr (.inr (.inl 96)), .inl a0, .inl a1, .inl a2] h (q_X9_rest h a0 a1 a2) := by
  show RUN d_X9_rest 0 [(0, .inr (.inr (.inl 96))), (1, .inl a0), (2, .inl a1), (3, .inl a2)] [] h _
  have b1 := i_rng a0
  have b2 := i_rng a1
  have b3 := i_rng a2
  have fr : FR [96, 97, 103, 104, 105, 106, 107, 108, 109, 110, 111, 112, 113, 114, 115, 116, 117, 118, 119] h h := FR.rf _ _
  refine R_aload_n (k := 0) rfl rfl rfl ?_
  refine R_iload_n (k := 1) rfl rfl rfl ?_
  have b4 : (0 : Int) ≤ (h.1 97 5).toInt ∧ (h.1 97 5).toInt ≤ 6 := hI.1 97 5
  have b5 : (0 : Int) ≤ (h.1 97 0).toInt ∧ (h.1 97 0).toInt ≤ 60 := hI.1 97 0
  have e6 : 0 < (h.1 97 5).toInt → 1 ≤ (h.1 97 0).toInt := hI.2.2.2.2.2.1.2.2
  refine R_callV (v := .inr (.inr (.inl 96))) (As := [.inl a0]) (rest := []) rfl mt_9_i314 pp_X9_isHand (by decide) rfl rfl rfl (Nat.le_of_ble_eq_true rfl) (Nat.le_of_ble_eq_true rfl) ((k_X9_isHand h hI a0).mono (fun r7 h8 p9 => ?_))
  obtain ⟨rfl, x10, rfl, q11 | q11 | q11⟩ := p9
  · show RUN d_X9_rest 5 [(0, .inr (.inr (.inl 96))), (1, .inl a0), (2, .inl a1), (3, .inl a2)] [.inl x10] h _
    refine N_if_eq (a := x10.toInt) 29 rfl rfl rfl (fun c12 => ?_) (fun c12 => ?_)
    · refine R_bipush (-2) rfl rfl ?_
      exact R_iret rfl rfl rfl ⟨hI, fr, trivial, _, rfl, trivial⟩
    · exfalso; omega
  · show RUN d_X9_rest 5 [(0, .inr (.inr (.inl 96))), (1, .inl a0), (2, .inl a1), (3, .inl a2)] [.inl x10] h _
    refine N_if_eq (a := x10.toInt) 29 rfl rfl rfl (fun c13 => ?_) (fun c13 => ?_)
    · refine R_bipush (-2) rfl rfl ?_
      exact R_iret rfl rfl rfl ⟨hI, fr, trivial, _, rfl, trivial⟩
    · exfalso; omega
  · show RUN d_X9_rest 5 [(0, .inr (.inr (.inl 96))), (1, .inl a0), (2, .inl a1), (3, .inl a2)] [.inl x10] h _
    refine N_if_eq (a := x10.toInt) 29 rfl rfl rfl (fun c14 => ?_) (fun c14 => ?_)
    · exfalso; omega
    · refine R_aload_n (k := 0) rfl rfl rfl ?_
      refine R_iload_n (k := 2) rfl rfl rfl ?_
      refine N_i2l rfl (fun w15 q16 => ?_)
      refine R_callV (v := .inr (.inr (.inl 96))) (As := [.inr (.inl w15)]) (rest := []) rfl mt_9_i310 pp_X9_isSecond (by decide) rfl rfl rfl (Nat.le_of_ble_eq_true rfl) (Nat.le_of_ble_eq_true rfl) ((k_X9_isSecond h hI w15).mono (fun r17 h18 p19 => ?_))
      obtain ⟨rfl, x20, rfl, q21 | q21 | q21⟩ := p19
      · show RUN d_X9_rest 14 [(0, .inr (.inr (.inl 96))), (1, .inl a0), (2, .inl a1), (3, .inl a2)] [.inl x20] h _
        refine N_if_eq (a := x20.toInt) 29 rfl rfl rfl (fun c22 => ?_) (fun c22 => ?_)
        · refine R_bipush (-2) rfl rfl ?_
          exact R_iret rfl rfl rfl ⟨hI, fr, trivial, _, rfl, trivial⟩
        · exfalso; omega
      · show RUN d_X9_rest 14 [(0, .inr (.inr (.inl 96))), (1, .inl a0), (2, .inl a1), (3, .inl a2)] [.inl x20] h _
        refine N_if_eq (a := x20.toInt) 29 rfl rfl rfl (fun c23 => ?_) (fun c23 => ?_)
        · refine R_bipush (-2) rfl rfl ?_
          exact R_iret rfl rfl rfl ⟨hI, fr, trivial, _, rfl, trivial⟩
        · exfalso; omega
      · show RUN d_X9_rest 14 [(0, .inr (.inr (.inl 96))), (1, .inl a0), (2, .inl a1), (3, .inl a2)] [.inl x20] h _
        refine N_if_eq (a := x20.toInt) 29 rfl rfl rfl (fun c24 => ?_) (fun c24 => ?_)
        · exfalso; omega
        · refine R_iload_n (k := 3) rfl rfl rfl ?_
          refine N_i2l rfl (fun w25 q26 => ?_)
          refine R_lconst 1 rfl rfl ?_
          refine R_ldc2 (x := 9) rfl kt_9_494 ?_
          have k27 : (1 : Int64).toInt = 1 := by decide
          have k28 : (9 : Int64).toInt = 9 := by decide
          refine R_callS (As := [.inr (.inl w25), .inr (.inl 1), .inr (.inl 9)]) (rest := []) rfl mt_9_i125 (by decide) pp_X9_in (by decide) rfl rfl (Nat.le_of_ble_eq_true rfl) (Nat.le_of_ble_eq_true rfl) ((k_X9_in h hI w25 (1 : Int64) (9 : Int64)).mono (fun r29 h30 p31 => ?_))
          obtain ⟨rfl, x32, rfl, q33 | q33 | q33⟩ := p31
          · show RUN d_X9_rest 26 [(0, .inr (.inr (.inl 96))), (1, .inl a0), (2, .inl a1), (3, .inl a2)] [.inl x32] h _
            refine N_if_ne (a := x32.toInt) 32 rfl rfl rfl (fun c34 => ?_) (fun c34 => ?_)
            · exfalso; omega
            · refine R_bipush (-2) rfl rfl ?_
              exact R_iret rfl rfl rfl ⟨hI, fr, trivial, _, rfl, trivial⟩
          · show RUN d_X9_rest 26 [(0, .inr (.inr (.inl 96))), (1, .inl a0), (2, .inl a1), (3, .inl a2)] [.inl x32] h _
            refine N_if_ne (a := x32.toInt) 32 rfl rfl rfl (fun c35 => ?_) (fun c35 => ?_)
            · exfalso; omega
            · refine R_bipush (-2) rfl rfl ?_
              exact R_iret rfl rfl rfl ⟨hI, fr, trivial, _, rfl, trivial⟩
          · show RUN d_X9_rest 26 [(0, .inr (.inr (.inl 96))), (1, .inl a0), (2, .inl a1), (3, .inl a2)] [.inl x32] h _
            refine N_if_ne (a := x32.toInt) 32 rfl rfl rfl (fun c36 => ?_) (fun c36 => ?_)
            · refine R_aload_n (k := 0) rfl rfl rfl ?_
              refine R_sipush 10000 rfl rfl ?_
              refine R_iload_n (k := 1) rfl rfl rfl ?_
              refine R_iconst 1 rfl rfl ?_
              refine N_iadd (a := a0.toInt) (b := 1) rfl rfl (by decide) (by omega) (fun x37 q38 => ?_)
              refine N_imul (a := 10000) (b := x37.toInt) rfl (by decide) rfl (by omega) (fun x39 q40 => ?_)
              refine R_bipush 100 rfl rfl ?_
              refine R_iload_n (k := 2) rfl rfl rfl ?_
              refine N_imul (a := 100) (b := a1.toInt) rfl (by decide) rfl (by omega) (fun x41 q42 => ?_)
              refine N_iadd (a := x39.toInt) (b := x41.toInt) rfl rfl rfl (by omega) (fun x43 q44 => ?_)
              refine R_iload_n (k := 3) rfl rfl rfl ?_
              refine N_iadd (a := x43.toInt) (b := a2.toInt) rfl rfl rfl (by omega) (fun x45 q46 => ?_)
              refine R_callV (v := .inr (.inr (.inl 96))) (As := [.inl x45]) (rest := []) rfl mt_9_i501 pp_X9_keepAct (by decide) rfl rfl rfl (Nat.le_of_ble_eq_true rfl) (Nat.le_of_ble_eq_true rfl) ((k_X9_keepAct h hI x45 (by omega) (by omega)).mono (fun r47 h48 p49 => ?_))
              obtain ⟨hJ, fj, ⟨kp50, kp51, -⟩, x52, rfl, q53⟩ := p49
              have f54 := fj
              have fr := fr.trans fj (by decide)
              have hI := hJ
              show RUN d_X9_rest 50 [(0, .inr (.inr (.inl 96))), (1, .inl a0), (2, .inl a1), (3, .inl a2)] [.inl x52] h48 _
              refine N_if_ge (a := x52.toInt) 56 rfl rfl rfl (fun c55 => ?_) (fun c55 => ?_)
              · refine R_aload_n (k := 0) rfl rfl rfl ?_
                have e56 : 0 < (h48.1 97 10).toInt → 1 ≤ (h48.1 97 0).toInt := hI.2.2.2.2.2.1.2.1
                refine R_callV (v := .inr (.inr (.inl 96))) (As := []) (rest := []) rfl mt_9_i307 pp_X9_asksBrigade (by decide) rfl rfl rfl (Nat.le_of_ble_eq_true rfl) (Nat.le_of_ble_eq_true rfl) ((k_X9_asksBrigade h48 hI).mono (fun r57 h58 p59 => ?_))
                obtain ⟨hJ, fj, -, x60, rfl, q61 | q61⟩ := p59
                · have f62 := fj
                  have fr := fr.trans fj (by decide)
                  have hI := hJ
                  have s63 : (h58.1 97 5).toInt = (h48.1 97 5).toInt := by rw [(f62 97 (by decide)).1]
                  have s64 : (h58.1 97 0).toInt = (h48.1 97 0).toInt := by rw [(f62 97 (by decide)).1]
                  have s65 : (h58.1 97 10).toInt = (h48.1 97 10).toInt := by rw [(f62 97 (by decide)).1]
                  show RUN d_X9_rest 60 [(0, .inr (.inr (.inl 96))), (1, .inl a0), (2, .inl a1), (3, .inl a2)] [.inl x60] h58 _
                  refine R_pop_i rfl ?_
                  refine R_aload_n (k := 0) rfl rfl rfl ?_
                  refine R_getf_r (j := 28) rfl ft_9_64 sh_96 rfl ?_
                  refine R_aload_n (k := 0) rfl rfl rfl ?_
                  refine R_callV (v := .inr (.inr (.inl 96))) (As := []) (rest := [.inr (.inr (.inl 113))]) rfl mt_9_i129 pp_X9_last (by decide) rfl rfl rfl (Nat.le_of_ble_eq_true rfl) (Nat.le_of_ble_eq_true rfl) ((k_X9_last h58 hI).mono (fun r66 h67 p68 => ?_))
                  obtain ⟨rfl, x69, rfl, q70⟩ := p68
                  show RUN d_X9_rest 69 [(0, .inr (.inr (.inl 96))), (1, .inl a0), (2, .inl a1), (3, .inl a2)] [.inl x69, .inr (.inr (.inl 113))] h58 _
                  refine R_iald rfl sh_113 ⟨by omega, by omega⟩ ?_
                  refine N_any (fun x71 => ?_)
                  exact R_iret rfl rfl rfl ⟨hI, fr, trivial, _, rfl, trivial⟩
                · have f72 := fj
                  have fr := fr.trans fj (by decide)
                  have hI := hJ
                  have s73 : (h58.1 97 5).toInt = (h48.1 97 5).toInt := by rw [(f72 97 (by decide)).1]
                  have s74 : (h58.1 97 0).toInt = (h48.1 97 0).toInt := by rw [(f72 97 (by decide)).1]
                  have s75 : (h58.1 97 10).toInt = (h48.1 97 10).toInt := by rw [(f72 97 (by decide)).1]
                  show RUN d_X9_rest 60 [(0, .inr (.inr (.inl 96))), (1, .inl a0), (2, .inl a1), (3, .inl a2)] [.inl x60] h58 _
                  refine R_pop_i rfl ?_
                  refine R_aload_n (k := 0) rfl rfl rfl ?_
                  refine R_getf_r (j := 28) rfl ft_9_64 sh_96 rfl ?_
                  refine R_aload_n (k := 0) rfl rfl rfl ?_
                  refine R_callV (v := .inr (.inr (.inl 96))) (As := []) (rest := [.inr (.inr (.inl 113))]) rfl mt_9_i129 pp_X9_last (by decide) rfl rfl rfl (Nat.le_of_ble_eq_true rfl) (Nat.le_of_ble_eq_true rfl) ((k_X9_last h58 hI).mono (fun r76 h77 p78 => ?_))
                  obtain ⟨rfl, x79, rfl, q80⟩ := p78
                  show RUN d_X9_rest 69 [(0, .inr (.inr (.inl 96))), (1, .inl a0), (2, .inl a1), (3, .inl a2)] [.inl x79, .inr (.inr (.inl 113))] h58 _
                  refine R_iald rfl sh_113 ⟨by omega, by omega⟩ ?_
                  refine N_any (fun x81 => ?_)
                  exact R_iret rfl rfl rfl ⟨hI, fr, trivial, _, rfl, trivial⟩
              · refine R_bipush (-5) rfl rfl ?_
                exact R_iret rfl rfl rfl ⟨hI, fr, trivial, _, rfl, trivial⟩
            · exfalso; omega
abbrev q_X8_paces (h : PH) (a0 : Int32) (a1 : Int32) : Option PV → PH → Prop := fun r h' => INV h' ∧ FR [0, 17, 19, 21, 25, 26, 27] h h' ∧ (True) ∧ ∃ z : Int32, r = some (.inl z) ∧ ((True))
set_option maxHeartbeats 4000000 in
set_option maxRecDepth 100000 in
theorem k_X8_paces (h : PH) (hI : INV h) (a0 : Int32) (a1 : Int32) : CALL d_X8_paces [.inr (.inr (.inl 0)), .inl a0, .inl a1] h (q_X8_paces h a0 a1) := by
  show RUN d_X8_paces 0 [(0, .inr (.inr (.inl 0))), (1, .inl a0), (2, .inl a1)] [] h _
  have b1 := i_rng a0
  have b2 := i_rng a1
  have fr : FR [0, 17, 19, 21, 25, 26, 27] h h := FR.rf _ _
  refine R_aload_n (k := 0) rfl rfl rfl ?_
  refine R_getf_r (j := 3) rfl ft_8_28 sh_0 rfl ?_
  refine R_iload_n (k := 1) rfl rfl rfl ?_
  have b3 : (0 : Int) ≤ (h.1 17 5).toInt ∧ (h.1 17 5).toInt ≤ 6 := hI.1 17 5
  refine R_callV (v := .inr (.inr (.inl 16))) (As := [.inl a0]) (rest := []) rfl mt_8_i119 pp_X1_hasHand (by decide) rfl rfl rfl (Nat.le_of_ble_eq_true rfl) (Nat.le_of_ble_eq_true rfl) ((k_X1_hasHand h hI a0).mono (fun r4 h5 p6 => ?_))
  obtain ⟨rfl, x7, rfl, q8 | q8 | q8⟩ := p6
  · show RUN d_X8_paces 8 [(0, .inr (.inr (.inl 0))), (1, .inl a0), (2, .inl a1)] [.inl x7] h _
    refine N_if_eq (a := x7.toInt) 22 rfl rfl rfl (fun c9 => ?_) (fun c9 => ?_)
    · refine R_bipush (-2) rfl rfl ?_
      exact R_iret rfl rfl rfl ⟨hI, fr, trivial, _, rfl, trivial⟩
    · exfalso; omega
  · show RUN d_X8_paces 8 [(0, .inr (.inr (.inl 0))), (1, .inl a0), (2, .inl a1)] [.inl x7] h _
    refine N_if_eq (a := x7.toInt) 22 rfl rfl rfl (fun c10 => ?_) (fun c10 => ?_)
    · refine R_bipush (-2) rfl rfl ?_
      exact R_iret rfl rfl rfl ⟨hI, fr, trivial, _, rfl, trivial⟩
    · exfalso; omega
  · show RUN d_X8_paces 8 [(0, .inr (.inr (.inl 0))), (1, .inl a0), (2, .inl a1)] [.inl x7] h _
    refine N_if_eq (a := x7.toInt) 22 rfl rfl rfl (fun c11 => ?_) (fun c11 => ?_)
    · exfalso; omega
    · refine R_iload_n (k := 2) rfl rfl rfl ?_
      refine R_iconst 1 rfl rfl ?_
      refine N_icmp_lt (a := a1.toInt) (b := 1) 22 rfl rfl rfl (by decide) (fun c12 => ?_) (fun c12 => ?_)
      · refine R_bipush (-2) rfl rfl ?_
        exact R_iret rfl rfl rfl ⟨hI, fr, trivial, _, rfl, trivial⟩
      · refine R_iload_n (k := 2) rfl rfl rfl ?_
        refine R_bipush 6 rfl rfl ?_
        refine N_icmp_le (a := a1.toInt) (b := 6) 25 rfl rfl rfl (by decide) (fun c13 => ?_) (fun c13 => ?_)
        · refine R_aload_n (k := 0) rfl rfl rfl ?_
          refine R_getf_r (j := 3) rfl ft_8_28 sh_0 rfl ?_
          refine R_getf_r (j := 0) rfl ft_8_109 sh_16 rfl ?_
          refine R_bipush 9 rfl rfl ?_
          refine R_iald rfl sh_17 (by decide) ?_
          have b14 : (0 : Int) ≤ (h.1 17 9).toInt ∧ (h.1 17 9).toInt ≤ 30 := hI.1 17 9
          show RUN d_X8_paces 35 [(0, .inr (.inr (.inl 0))), (1, .inl a0), (2, .inl a1)] [.inl (h.1 17 9)] h _
          refine R_bipush 30 rfl rfl ?_
          refine N_icmp_lt (a := (h.1 17 9).toInt) (b := 30) 43 rfl rfl rfl (by decide) (fun c15 => ?_) (fun c15 => ?_)
          · refine R_aload_n (k := 0) rfl rfl rfl ?_
            refine R_getf_r (j := 3) rfl ft_8_28 sh_0 rfl ?_
            refine R_getf_r (j := 2) rfl ft_8_125 sh_16 rfl ?_
            refine R_iload_n (k := 1) rfl rfl rfl ?_
            refine R_iald rfl sh_19 ⟨by omega, by omega⟩ ?_
            refine N_any (fun x16 => ?_)
            refine R_istore_n (k := 3) rfl [(3, .inl x16), (0, .inr (.inr (.inl 0))), (1, .inl a0), (2, .inl a1)] rfl rfl (by decide) ?_
            refine R_aload_n (k := 0) rfl rfl rfl ?_
            refine R_getf_r (j := 3) rfl ft_8_28 sh_0 rfl ?_
            refine R_iload_n (k := 1) rfl rfl rfl ?_
            refine R_iconst (-1) rfl rfl ?_
            refine R_iload_n (k := 2) rfl rfl rfl ?_
            have k17 : ((-1) : Int32).toInt = (-1) := by decide
            refine R_callV (v := .inr (.inr (.inl 16))) (As := [.inl a0, .inl (-1), .inl a1]) (rest := []) rfl mt_8_i373 pp_X1_addAct (by decide) rfl rfl rfl (Nat.le_of_ble_eq_true rfl) (Nat.le_of_ble_eq_true rfl) ((k_X1_addAct h hI a0 ((-1) : Int32) a1 (by omega) (by decide) (by omega)).mono (fun r18 h19 p20 => ?_))
            obtain ⟨hJ, fj, ⟨kp21, kp22, -⟩, rfl⟩ := p20
            have f23 := fj
            have fr := fr.trans fj (by decide)
            have hI := hJ
            show RUN d_X8_paces 63 [(3, .inl x16), (0, .inr (.inr (.inl 0))), (1, .inl a0), (2, .inl a1)] [] h19 _
            refine R_aload_n (k := 0) rfl rfl rfl ?_
            refine R_callV (v := .inr (.inr (.inl 0))) (As := []) (rest := []) rfl mt_8_i377 pp_X8_forget (by decide) rfl rfl rfl (Nat.le_of_ble_eq_true rfl) (Nat.le_of_ble_eq_true rfl) ((k_X8_forget h19 hI).mono (fun r24 h25 p26 => ?_))
            obtain ⟨hJ, fj, -, rfl⟩ := p26
            have f27 := fj
            have fr := fr.trans fj (by decide)
            have hI := hJ
            have s28 : (h25.1 17 5).toInt = (h19.1 17 5).toInt := by rw [(f27 17 (by decide)).1]
            show RUN d_X8_paces 67 [(3, .inl x16), (0, .inr (.inr (.inl 0))), (1, .inl a0), (2, .inl a1)] [] h25 _
            refine R_iload_n (k := 3) rfl rfl rfl ?_
            exact R_iret rfl rfl rfl ⟨hI, fr, trivial, _, rfl, trivial⟩
          · refine R_bipush (-5) rfl rfl ?_
            exact R_iret rfl rfl rfl ⟨hI, fr, trivial, _, rfl, trivial⟩
        · refine R_bipush (-2) rfl rfl ?_
          exact R_iret rfl rfl rfl ⟨hI, fr, trivial, _, rfl, trivial⟩
abbrev q_X9_paces (h : PH) (a0 : Int32) (a1 : Int32) : Option PV → PH → Prop := fun r h' => INV h' ∧ FR [96, 97, 103, 104, 105, 106] h h' ∧ (True) ∧ ∃ z : Int32, r = some (.inl z) ∧ ((True))
set_option maxHeartbeats 4000000 in
set_option maxRecDepth 100000 in
theorem k_X9_paces (h : PH) (hI : INV h) (a0 : Int32) (a1 : Int32) : CALL d_X9_paces [.inr (.inr (.inl 96)), .inl a0, .inl a1] h (q_X9_paces h a0 a1) := by
  show RUN d_X9_paces 0 [(0, .inr (.inr (.inl 96))), (1, .inl a0), (2, .inl a1)] [] h _
  have b1 := i_rng a0
  have b2 := i_rng a1
  have fr : FR [96, 97, 103, 104, 105, 106] h h := FR.rf _ _
  refine R_aload_n (k := 0) rfl rfl rfl ?_
  refine R_iload_n (k := 1) rfl rfl rfl ?_
  have b3 : (0 : Int) ≤ (h.1 97 5).toInt ∧ (h.1 97 5).toInt ≤ 6 := hI.1 97 5
  have b4 : (0 : Int) ≤ (h.1 97 0).toInt ∧ (h.1 97 0).toInt ≤ 60 := hI.1 97 0
  have e5 : 0 < (h.1 97 5).toInt → 1 ≤ (h.1 97 0).toInt := hI.2.2.2.2.2.1.2.2
  refine R_callV (v := .inr (.inr (.inl 96))) (As := [.inl a0]) (rest := []) rfl mt_9_i314 pp_X9_isHand (by decide) rfl rfl rfl (Nat.le_of_ble_eq_true rfl) (Nat.le_of_ble_eq_true rfl) ((k_X9_isHand h hI a0).mono (fun r6 h7 p8 => ?_))
  obtain ⟨rfl, x9, rfl, q10 | q10 | q10⟩ := p8
  · show RUN d_X9_paces 5 [(0, .inr (.inr (.inl 96))), (1, .inl a0), (2, .inl a1)] [.inl x9] h _
    refine N_if_eq (a := x9.toInt) 20 rfl rfl rfl (fun c11 => ?_) (fun c11 => ?_)
    · refine R_bipush (-2) rfl rfl ?_
      exact R_iret rfl rfl rfl ⟨hI, fr, trivial, _, rfl, trivial⟩
    · exfalso; omega
  · show RUN d_X9_paces 5 [(0, .inr (.inr (.inl 96))), (1, .inl a0), (2, .inl a1)] [.inl x9] h _
    refine N_if_eq (a := x9.toInt) 20 rfl rfl rfl (fun c12 => ?_) (fun c12 => ?_)
    · refine R_bipush (-2) rfl rfl ?_
      exact R_iret rfl rfl rfl ⟨hI, fr, trivial, _, rfl, trivial⟩
    · exfalso; omega
  · show RUN d_X9_paces 5 [(0, .inr (.inr (.inl 96))), (1, .inl a0), (2, .inl a1)] [.inl x9] h _
    refine N_if_eq (a := x9.toInt) 20 rfl rfl rfl (fun c13 => ?_) (fun c13 => ?_)
    · exfalso; omega
    · refine R_iload_n (k := 2) rfl rfl rfl ?_
      refine N_i2l rfl (fun w14 q15 => ?_)
      refine R_lconst 1 rfl rfl ?_
      refine R_ldc2 (x := 6) rfl kt_9_504 ?_
      have k16 : (1 : Int64).toInt = 1 := by decide
      have k17 : (6 : Int64).toInt = 6 := by decide
      refine R_callS (As := [.inr (.inl w14), .inr (.inl 1), .inr (.inl 6)]) (rest := []) rfl mt_9_i125 (by decide) pp_X9_in (by decide) rfl rfl (Nat.le_of_ble_eq_true rfl) (Nat.le_of_ble_eq_true rfl) ((k_X9_in h hI w14 (1 : Int64) (6 : Int64)).mono (fun r18 h19 p20 => ?_))
      obtain ⟨rfl, x21, rfl, q22 | q22 | q22⟩ := p20
      · show RUN d_X9_paces 17 [(0, .inr (.inr (.inl 96))), (1, .inl a0), (2, .inl a1)] [.inl x21] h _
        refine N_if_ne (a := x21.toInt) 23 rfl rfl rfl (fun c23 => ?_) (fun c23 => ?_)
        · exfalso; omega
        · refine R_bipush (-2) rfl rfl ?_
          exact R_iret rfl rfl rfl ⟨hI, fr, trivial, _, rfl, trivial⟩
      · show RUN d_X9_paces 17 [(0, .inr (.inr (.inl 96))), (1, .inl a0), (2, .inl a1)] [.inl x21] h _
        refine N_if_ne (a := x21.toInt) 23 rfl rfl rfl (fun c24 => ?_) (fun c24 => ?_)
        · exfalso; omega
        · refine R_bipush (-2) rfl rfl ?_
          exact R_iret rfl rfl rfl ⟨hI, fr, trivial, _, rfl, trivial⟩
      · show RUN d_X9_paces 17 [(0, .inr (.inr (.inl 96))), (1, .inl a0), (2, .inl a1)] [.inl x21] h _
        refine N_if_ne (a := x21.toInt) 23 rfl rfl rfl (fun c25 => ?_) (fun c25 => ?_)
        · refine R_aload_n (k := 0) rfl rfl rfl ?_
          refine R_callV (v := .inr (.inr (.inl 96))) (As := []) (rest := []) rfl mt_9_i298 pp_X9_asItIs (by decide) rfl rfl rfl (Nat.le_of_ble_eq_true rfl) (Nat.le_of_ble_eq_true rfl) ((k_X9_asItIs h hI).mono (fun r26 h27 p28 => ?_))
          obtain ⟨hJ, fj, ⟨kp29, -⟩, rfl⟩ := p28
          have f30 := fj
          have fr := fr.trans fj (by decide)
          have hI := hJ
          have s31 : (h27.1 97 5).toInt = (h.1 97 5).toInt := by rw [(f30 97 (by decide)).1]
          have s32 : (h27.1 97 0).toInt = (h.1 97 0).toInt := by rw [(f30 97 (by decide)).1]
          show RUN d_X9_paces 27 [(0, .inr (.inr (.inl 96))), (1, .inl a0), (2, .inl a1)] [] h27 _
          refine R_aload_n (k := 0) rfl rfl rfl ?_
          refine R_getf_r (j := 15) rfl ft_9_34 sh_96 rfl ?_
          refine R_iload_n (k := 1) rfl rfl rfl ?_
          refine R_iald rfl sh_103 ⟨by omega, by omega⟩ ?_
          refine N_any (fun x33 => ?_)
          refine R_istore_n (k := 3) rfl [(3, .inl x33), (0, .inr (.inr (.inl 96))), (1, .inl a0), (2, .inl a1)] rfl rfl (by decide) ?_
          refine R_aload_n (k := 0) rfl rfl rfl ?_
          refine R_bipush 100 rfl rfl ?_
          refine R_iload_n (k := 1) rfl rfl rfl ?_
          refine R_iconst 1 rfl rfl ?_
          refine N_iadd (a := a0.toInt) (b := 1) rfl rfl (by decide) (by omega) (fun x34 q35 => ?_)
          refine N_imul (a := 100) (b := x34.toInt) rfl (by decide) rfl (by omega) (fun x36 q37 => ?_)
          refine R_iload_n (k := 2) rfl rfl rfl ?_
          refine N_iadd (a := x36.toInt) (b := a1.toInt) rfl rfl rfl (by omega) (fun x38 q39 => ?_)
          refine R_callV (v := .inr (.inr (.inl 96))) (As := [.inl x38]) (rest := []) rfl mt_9_i501 pp_X9_keepAct (by decide) rfl rfl rfl (Nat.le_of_ble_eq_true rfl) (Nat.le_of_ble_eq_true rfl) ((k_X9_keepAct h27 hI x38 (by omega) (by omega)).mono (fun r40 h41 p42 => ?_))
          obtain ⟨hJ, fj, ⟨kp43, kp44, -⟩, x45, rfl, q46⟩ := p42
          have f47 := fj
          have fr := fr.trans fj (by decide)
          have hI := hJ
          show RUN d_X9_paces 46 [(3, .inl x33), (0, .inr (.inr (.inl 96))), (1, .inl a0), (2, .inl a1)] [.inl x45] h41 _
          refine N_if_ge (a := x45.toInt) 54 rfl rfl rfl (fun c48 => ?_) (fun c48 => ?_)
          · refine R_iload_n (k := 3) rfl rfl rfl ?_
            exact R_iret rfl rfl rfl ⟨hI, fr, trivial, _, rfl, trivial⟩
          · refine R_bipush (-5) rfl rfl ?_
            refine R_goto 55 rfl rfl ?_
            exact R_iret rfl rfl rfl ⟨hI, fr, trivial, _, rfl, trivial⟩
        · exfalso; omega
abbrev q_X1_keepActs (h : PH) (a0 : Int32) : Option PV → PH → Prop := fun r h' => INV h' ∧ FR [17, 19, 21] h h' ∧ ((h'.1 17 10).toInt = (h.1 17 10).toInt ∧ (h'.1 17 0).toInt = (h.1 17 0).toInt ∧ True) ∧ r = none
set_option maxHeartbeats 4000000 in
set_option maxRecDepth 100000 in
theorem k_X1_keepActs (h : PH) (hI : INV h) (a0 : Int32) (h0a : 0 ≤ a0.toInt ∧ a0.toInt ≤ 29) : CALL d_X1_keepActs [.inr (.inr (.inl 16)), .inl a0] h (q_X1_keepActs h a0) := by
  show RUN d_X1_keepActs 0 [(0, .inr (.inr (.inl 16))), (1, .inl a0)] [] h _
  have fr : FR [17, 19, 21] h h := FR.rf _ _
  have b1 : (0 : Int) ≤ (h.1 17 0).toInt ∧ (h.1 17 0).toInt ≤ 60 := hI.1 17 0
  have e2 : 0 < (h.1 17 10).toInt → 1 ≤ (h.1 17 0).toInt := hI.2.1
  have b3 : (0 : Int) ≤ (h.1 17 9).toInt ∧ (h.1 17 9).toInt ≤ 30 := hI.1 17 9
  refine R_iconst 0 rfl rfl ?_
  refine R_istore_n (k := 2) rfl [(2, .inl 0), (0, .inr (.inr (.inl 16))), (1, .inl a0)] rfl rfl (by decide) ?_
  have lp5 : ∀ (n4 : Nat) (h6 : PH) (x8 : Int32), INV h6 → FR [17, 19, 21] h h6 → FR [17, 19, 21] h h6 → 0 ≤ x8.toInt ∧ x8.toInt ≤ 6 → (h6.1 17 10).toInt = (h.1 17 10).toInt → (h6.1 17 0).toInt = (h.1 17 0).toInt → 0 ≤ (h6.1 17 9).toInt ∧ (h6.1 17 9).toInt ≤ 30 → (6 - x8.toInt).toNat < n4 → RUN d_X1_keepActs 2 [(2, .inl x8), (0, .inr (.inr (.inl 16))), (1, .inl a0)] [] h6 (q_X1_keepActs h a0) := by
    intro n4
    induction n4 with
    | zero => intro h6 x8 m10 m11 m12 m13 m14 m15 m16 hz; exact absurd hz (Nat.not_lt_zero _)
    | succ n4 ih9 =>
      intro h6 x8 hI fr fl7 m13 m14 m15 m16 hz
      refine R_iload_n (k := 2) rfl rfl rfl ?_
      refine R_bipush 6 rfl rfl ?_
      refine N_icmp_ge (a := x8.toInt) (b := 6) 33 rfl rfl rfl (by decide) (fun c17 => ?_) (fun c17 => ?_)
      · refine R_iconst 0 rfl rfl ?_
        refine R_istore_n (k := 2) rfl [(2, .inl 0), (0, .inr (.inr (.inl 16))), (1, .inl a0)] rfl rfl (by decide) ?_
        have lp19 : ∀ (n18 : Nat) (h20 : PH) (x22 : Int32), INV h20 → FR [17, 19, 21] h h20 → FR [17, 19, 21] h6 h20 → 0 ≤ x22.toInt ∧ x22.toInt ≤ 29 → (h20.1 17 10).toInt = (h6.1 17 10).toInt → (h20.1 17 0).toInt = (h6.1 17 0).toInt → 0 ≤ (h20.1 17 9).toInt ∧ (h20.1 17 9).toInt ≤ 30 → x22.toInt ≤ a0.toInt + 0 → (29 - x22.toInt).toNat < n18 → RUN d_X1_keepActs 35 [(2, .inl x22), (0, .inr (.inr (.inl 16))), (1, .inl a0)] [] h20 (q_X1_keepActs h a0) := by
          intro n18
          induction n18 with
          | zero => intro h20 x22 m24 m25 m26 m27 m28 m29 m30 m31 hz; exact absurd hz (Nat.not_lt_zero _)
          | succ n18 ih23 =>
            intro h20 x22 hI fr fl21 m27 m28 m29 m30 m31 hz
            have fl7 : FR [17, 19, 21] h h20 := fl7.trans fl21 (by decide)
            refine R_iload_n (k := 2) rfl rfl rfl ?_
            refine R_iload_n (k := 1) rfl rfl rfl ?_
            refine N_icmp_ge (a := x22.toInt) (b := a0.toInt) 57 rfl rfl rfl rfl (fun c32 => ?_) (fun c32 => ?_)
            · refine R_aload_n (k := 0) rfl rfl rfl ?_
              refine R_getf_r (j := 0) rfl ft_1_9 sh_16 rfl ?_
              refine R_bipush 9 rfl rfl ?_
              refine R_iload_n (k := 1) rfl rfl rfl ?_
              refine K_iasp (a := 9) (lo := 0) (hi' := 30) rfl sh_17 (by decide) (by decide) hI (by decide) rfl (by omega) fr (by decide) (fun h33 g34 hI fr => ?_)
              have fl21 : FR [17, 19, 21] h6 h33 := by rw [g34]; exact FR_wI _ _ fl21 (by decide)
              have fl7 : FR [17, 19, 21] h h33 := by rw [g34]; exact FR_wI _ _ fl7 (by decide)
              have s35 : (h33.1 17 10).toInt = (h20.1 17 10).toInt := by rw [g34, show (9 : Int32).toNatClampNeg = 9 from rfl, wI_at (by decide)]
              have s36 : (h33.1 17 0).toInt = (h20.1 17 0).toInt := by rw [g34, show (9 : Int32).toNatClampNeg = 9 from rfl, wI_at (by decide)]
              have s37 : (h33.1 17 9).toInt = a0.toInt := by rw [g34, show (9 : Int32).toNatClampNeg = 9 from rfl, wI_is]
              exact R_vret rfl rfl ⟨hI, fr, ⟨by omega, by omega, trivial⟩, rfl⟩
            · refine R_iload_n (k := 2) rfl rfl rfl ?_
              refine R_bipush 30 rfl rfl ?_
              refine N_icmp_ge (a := x22.toInt) (b := 30) 57 rfl rfl rfl (by decide) (fun c38 => ?_) (fun c38 => ?_)
              · exfalso; omega
              · refine R_aload_n (k := 0) rfl rfl rfl ?_
                refine R_iload_n (k := 2) rfl rfl rfl ?_
                refine R_callV (v := .inr (.inr (.inl 16))) (As := [.inl x22]) (rest := []) rfl mt_1_i62 pp_X1_carryOut (by decide) rfl rfl rfl (Nat.le_of_ble_eq_true rfl) (Nat.le_of_ble_eq_true rfl) ((k_X1_carryOut h20 hI x22 (by omega)).mono (fun r39 h40 p41 => ?_))
                obtain ⟨hJ, fj, -, rfl⟩ := p41
                have f42 := fj
                have fr := fr.trans fj (by decide)
                have hI := hJ
                have fl21 : FR [17, 19, 21] h6 h40 := fl21.trans fj (by decide)
                have fl7 : FR [17, 19, 21] h h40 := fl7.trans fj (by decide)
                have s43 : (h40.1 17 10).toInt = (h20.1 17 10).toInt := by rw [(f42 17 (by decide)).1]
                have s44 : (h40.1 17 0).toInt = (h20.1 17 0).toInt := by rw [(f42 17 (by decide)).1]
                have s45 : (h40.1 17 9).toInt = (h20.1 17 9).toInt := by rw [(f42 17 (by decide)).1]
                show RUN d_X1_keepActs 51 [(2, .inl x22), (0, .inr (.inr (.inl 16))), (1, .inl a0)] [] h40 _
                refine N_iinc (a := x22.toInt) (c := 1) (fun w => [(2, .inl w), (0, .inr (.inr (.inl 16))), (1, .inl a0)]) rfl rfl (fun _ => rfl) (by decide) rfl (by decide) (by omega) (fun x46 q47 => ?_)
                refine R_goto 35 rfl rfl ?_
                exact RUN_weak (psub_cons rfl (psub_cons rfl (psub_cons rfl (psub_nil _)))) (ih23 h40 x46 hI fr fl21 (by omega) (by omega) (by omega) (by omega) (by omega) (by omega))
        have k48 : (0 : Int32).toInt = 0 := by decide
        exact lp19 _ h6 (0 : Int32) hI fr (FR.rf _ _) (by decide) rfl rfl (by omega) (by omega) (Nat.lt_succ_self _)
      · refine R_aload_n (k := 0) rfl rfl rfl ?_
        refine R_getf_r (j := 2) rfl ft_1_18 sh_16 rfl ?_
        refine R_iload_n (k := 2) rfl rfl rfl ?_
        refine R_aload_n (k := 0) rfl rfl rfl ?_
        refine R_getf_r (j := 1) rfl ft_1_15 sh_16 rfl ?_
        refine R_iload_n (k := 2) rfl rfl rfl ?_
        refine R_iald rfl sh_18 ⟨by omega, by omega⟩ ?_
        refine N_any (fun x49 => ?_)
        refine K_iast (a := x8.toInt) (lo := (-2147483648)) (hi' := 2147483647) rfl sh_19 rfl ⟨by omega, by omega⟩ hI (by decide) rfl (i_rng _) fr (by decide) (fun h50 g51 hI fr => ?_)
        have fl7 : FR [17, 19, 21] h h50 := by rw [g51]; exact FR_wI _ _ fl7 (by decide)
        have s52 : (h50.1 17 10).toInt = (h6.1 17 10).toInt := by rw [g51, wI_ne _ _ _ (by decide)]
        have s53 : (h50.1 17 0).toInt = (h6.1 17 0).toInt := by rw [g51, wI_ne _ _ _ (by decide)]
        have s54 : (h50.1 17 9).toInt = (h6.1 17 9).toInt := by rw [g51, wI_ne _ _ _ (by decide)]
        refine R_aload_n (k := 0) rfl rfl rfl ?_
        refine R_getf_r (j := 4) rfl ft_1_24 sh_16 rfl ?_
        refine R_iload_n (k := 2) rfl rfl rfl ?_
        refine R_lconst 0 rfl rfl ?_
        refine K_last (a := x8.toInt) rfl sh_21 rfl ⟨by omega, by omega⟩ hI fr (by decide) (fun h55 g56 hI fr => ?_)
        have fl7 : FR [17, 19, 21] h h55 := by rw [g56]; exact FR_wL _ _ fl7 (by decide)
        have s57 : (h55.1 17 10).toInt = (h50.1 17 10).toInt := by rw [g56, wL_fst]
        have s58 : (h55.1 17 0).toInt = (h50.1 17 0).toInt := by rw [g56, wL_fst]
        have s59 : (h55.1 17 9).toInt = (h50.1 17 9).toInt := by rw [g56, wL_fst]
        refine N_iinc (a := x8.toInt) (c := 1) (fun w => [(2, .inl w), (0, .inr (.inr (.inl 16))), (1, .inl a0)]) rfl rfl (fun _ => rfl) (by decide) rfl (by decide) (by omega) (fun x60 q61 => ?_)
        refine R_goto 2 rfl rfl ?_
        exact RUN_weak (psub_cons rfl (psub_cons rfl (psub_cons rfl (psub_nil _)))) (ih9 h55 x60 hI fr fl7 (by omega) (by omega) (by omega) (by omega) (by omega))
  exact lp5 _ h (0 : Int32) hI fr (FR.rf _ _) (by decide) rfl rfl (by omega) (Nat.lt_succ_self _)
abbrev q_X8_undo (h : PH)  : Option PV → PH → Prop := fun r h' => INV h' ∧ FR [0, 17, 19, 21] h h' ∧ (True) ∧ ∃ z : Int32, r = some (.inl z) ∧ (((-5) ≤ z.toInt ∧ z.toInt ≤ 29))
set_option maxHeartbeats 4000000 in
set_option maxRecDepth 100000 in
theorem k_X8_undo (h : PH) (hI : INV h)  : CALL d_X8_undo [.inr (.inr (.inl 0))] h (q_X8_undo h) := by
  show RUN d_X8_undo 0 [(0, .inr (.inr (.inl 0)))] [] h _
  have fr : FR [0, 17, 19, 21] h h := FR.rf _ _
  refine R_aload_n (k := 0) rfl rfl rfl ?_
  refine R_getf_r (j := 3) rfl ft_8_28 sh_0 rfl ?_
  have b1 : (0 : Int) ≤ (h.1 17 0).toInt ∧ (h.1 17 0).toInt ≤ 60 := hI.1 17 0
  have e2 : 0 < (h.1 17 10).toInt → 1 ≤ (h.1 17 0).toInt := hI.2.1
  refine R_callV (v := .inr (.inr (.inl 16))) (As := []) (rest := []) rfl mt_8_i146 pp_X1_stands (by decide) rfl rfl rfl (Nat.le_of_ble_eq_true rfl) (Nat.le_of_ble_eq_true rfl) ((k_X1_stands h hI).mono (fun r3 h4 p5 => ?_))
  obtain ⟨rfl, x6, rfl, q7 | q7⟩ := p5
  · show RUN d_X8_undo 7 [(0, .inr (.inr (.inl 0)))] [.inl x6] h _
    refine N_if_ne (a := x6.toInt) 13 rfl rfl rfl (fun c8 => ?_) (fun c8 => ?_)
    · exfalso; omega
    · refine R_bipush (-2) rfl rfl ?_
      exact R_iret rfl rfl rfl ⟨hI, fr, trivial, _, rfl, by rw [show ((-2) : Int32).toInt = (-2) from rfl] <;> omega⟩
  · show RUN d_X8_undo 7 [(0, .inr (.inr (.inl 0)))] [.inl x6] h _
    refine N_if_ne (a := x6.toInt) 13 rfl rfl rfl (fun c9 => ?_) (fun c9 => ?_)
    · refine R_aload_n (k := 0) rfl rfl rfl ?_
      refine R_getf_r (j := 3) rfl ft_8_28 sh_0 rfl ?_
      refine R_getf_r (j := 0) rfl ft_8_109 sh_16 rfl ?_
      refine R_bipush 9 rfl rfl ?_
      refine R_iald rfl sh_17 (by decide) ?_
      have b10 : (0 : Int) ≤ (h.1 17 9).toInt ∧ (h.1 17 9).toInt ≤ 30 := hI.1 17 9
      show RUN d_X8_undo 23 [(0, .inr (.inr (.inl 0)))] [.inl (h.1 17 9)] h _
      refine R_istore_n (k := 1) rfl [(1, .inl (h.1 17 9)), (0, .inr (.inr (.inl 0)))] rfl rfl (by decide) ?_
      refine R_iload_n (k := 1) rfl rfl rfl ?_
      refine N_if_ne (a := (h.1 17 9).toInt) 31 rfl rfl rfl (fun c11 => ?_) (fun c11 => ?_)
      · refine R_aload_n (k := 0) rfl rfl rfl ?_
        refine R_getf_r (j := 3) rfl ft_8_28 sh_0 rfl ?_
        refine R_iload_n (k := 1) rfl rfl rfl ?_
        refine R_iconst 1 rfl rfl ?_
        refine N_isub (a := (h.1 17 9).toInt) (b := 1) rfl rfl (by decide) (by omega) (fun x12 q13 => ?_)
        refine R_callV (v := .inr (.inr (.inl 16))) (As := [.inl x12]) (rest := []) rfl mt_8_i380 pp_X1_keepActs (by decide) rfl rfl rfl (Nat.le_of_ble_eq_true rfl) (Nat.le_of_ble_eq_true rfl) ((k_X1_keepActs h hI x12 (by omega)).mono (fun r14 h15 p16 => ?_))
        obtain ⟨hJ, fj, ⟨kp17, kp18, -⟩, rfl⟩ := p16
        have f19 := fj
        have fr := fr.trans fj (by decide)
        have hI := hJ
        show RUN d_X8_undo 41 [(1, .inl (h.1 17 9)), (0, .inr (.inr (.inl 0)))] [] h15 _
        refine R_aload_n (k := 0) rfl rfl rfl ?_
        refine R_callV (v := .inr (.inr (.inl 0))) (As := []) (rest := []) rfl mt_8_i377 pp_X8_forget (by decide) rfl rfl rfl (Nat.le_of_ble_eq_true rfl) (Nat.le_of_ble_eq_true rfl) ((k_X8_forget h15 hI).mono (fun r20 h21 p22 => ?_))
        obtain ⟨hJ, fj, -, rfl⟩ := p22
        have f23 := fj
        have fr := fr.trans fj (by decide)
        have hI := hJ
        have s24 : (h21.1 17 10).toInt = (h15.1 17 10).toInt := by rw [(f23 17 (by decide)).1]
        have s25 : (h21.1 17 0).toInt = (h15.1 17 0).toInt := by rw [(f23 17 (by decide)).1]
        show RUN d_X8_undo 45 [(1, .inl (h.1 17 9)), (0, .inr (.inr (.inl 0)))] [] h21 _
        refine R_iload_n (k := 1) rfl rfl rfl ?_
        refine R_iconst 1 rfl rfl ?_
        refine N_isub (a := (h.1 17 9).toInt) (b := 1) rfl rfl (by decide) (by omega) (fun x26 q27 => ?_)
        exact R_iret rfl rfl rfl ⟨hI, fr, trivial, _, rfl, by omega⟩
      · refine R_bipush (-5) rfl rfl ?_
        exact R_iret rfl rfl rfl ⟨hI, fr, trivial, _, rfl, by rw [show ((-5) : Int32).toInt = (-5) from rfl] <;> omega⟩
    · exfalso; omega
abbrev q_X9_undo (h : PH)  : Option PV → PH → Prop := fun r h' => INV h' ∧ FR [97] h h' ∧ (True) ∧ ∃ z : Int32, r = some (.inl z) ∧ (((-5) ≤ z.toInt ∧ z.toInt ≤ 29))
set_option maxHeartbeats 4000000 in
set_option maxRecDepth 100000 in
theorem k_X9_undo (h : PH) (hI : INV h)  : CALL d_X9_undo [.inr (.inr (.inl 96))] h (q_X9_undo h) := by
  show RUN d_X9_undo 0 [(0, .inr (.inr (.inl 96)))] [] h _
  have fr : FR [97] h h := FR.rf _ _
  refine R_aload_n (k := 0) rfl rfl rfl ?_
  have b1 : (0 : Int) ≤ (h.1 97 0).toInt ∧ (h.1 97 0).toInt ≤ 60 := hI.1 97 0
  have e2 : 0 < (h.1 97 10).toInt → 1 ≤ (h.1 97 0).toInt := hI.2.2.2.2.2.1.2.1
  refine R_callV (v := .inr (.inr (.inl 96))) (As := []) (rest := []) rfl mt_9_i301 pp_X9_isBrigade (by decide) rfl rfl rfl (Nat.le_of_ble_eq_true rfl) (Nat.le_of_ble_eq_true rfl) ((k_X9_isBrigade h hI).mono (fun r3 h4 p5 => ?_))
  obtain ⟨rfl, x6, rfl, q7 | q7⟩ := p5
  · show RUN d_X9_undo 4 [(0, .inr (.inr (.inl 96)))] [.inl x6] h _
    refine N_if_ne (a := x6.toInt) 10 rfl rfl rfl (fun c8 => ?_) (fun c8 => ?_)
    · exfalso; omega
    · refine R_bipush (-2) rfl rfl ?_
      exact R_iret rfl rfl rfl ⟨hI, fr, trivial, _, rfl, by rw [show ((-2) : Int32).toInt = (-2) from rfl] <;> omega⟩
  · show RUN d_X9_undo 4 [(0, .inr (.inr (.inl 96)))] [.inl x6] h _
    refine N_if_ne (a := x6.toInt) 10 rfl rfl rfl (fun c9 => ?_) (fun c9 => ?_)
    · refine R_aload_n (k := 0) rfl rfl rfl ?_
      refine R_getf_r (j := 1) rfl ft_9_9 sh_96 rfl ?_
      refine R_bipush 9 rfl rfl ?_
      refine R_iald rfl sh_97 (by decide) ?_
      have b10 : (0 : Int) ≤ (h.1 97 9).toInt ∧ (h.1 97 9).toInt ≤ 30 := hI.1 97 9
      show RUN d_X9_undo 17 [(0, .inr (.inr (.inl 96)))] [.inl (h.1 97 9)] h _
      refine N_if_ne (a := (h.1 97 9).toInt) 23 rfl rfl rfl (fun c11 => ?_) (fun c11 => ?_)
      · refine R_aload_n (k := 0) rfl rfl rfl ?_
        refine R_getf_r (j := 1) rfl ft_9_9 sh_96 rfl ?_
        refine R_bipush 9 rfl rfl ?_
        refine R_dup2 rfl ?_
        refine R_iald rfl sh_97 (by decide) ?_
        show RUN d_X9_undo 31 [(0, .inr (.inr (.inl 96)))] [.inl (h.1 97 9), .inl 9, .inr (.inr (.inl 97))] h _
        refine R_iconst 1 rfl rfl ?_
        refine N_isub (a := (h.1 97 9).toInt) (b := 1) rfl rfl (by decide) (by omega) (fun x12 q13 => ?_)
        refine K_ias9 rfl hI (by omega) fr (by decide) (fun h14 g15 hI fr => ?_)
        have s16 : (h14.1 97 10).toInt = (h.1 97 10).toInt := by rw [g15, show (9 : Int32).toNatClampNeg = 9 from rfl, wI_at (by decide)]
        have s17 : (h14.1 97 0).toInt = (h.1 97 0).toInt := by rw [g15, show (9 : Int32).toNatClampNeg = 9 from rfl, wI_at (by decide)]
        have s18 : (h14.1 97 9).toInt = x12.toInt := by rw [g15, show (9 : Int32).toNatClampNeg = 9 from rfl, wI_is]
        refine R_aload_n (k := 0) rfl rfl rfl ?_
        refine R_getf_r (j := 1) rfl ft_9_9 sh_96 rfl ?_
        refine R_bipush 9 rfl rfl ?_
        refine R_iald rfl sh_97 (by decide) ?_
        show RUN d_X9_undo 41 [(0, .inr (.inr (.inl 96)))] [.inl (h14.1 97 9)] h14 _
        exact R_iret rfl rfl rfl ⟨hI, fr, trivial, _, rfl, by omega⟩
      · refine R_bipush (-5) rfl rfl ?_
        exact R_iret rfl rfl rfl ⟨hI, fr, trivial, _, rfl, by rw [show ((-5) : Int32).toInt = (-5) from rfl] <;> omega⟩
    · exfalso; omega
abbrev q_X8_anew (h : PH)  : Option PV → PH → Prop := fun r h' => INV h' ∧ FR [0, 17, 19, 21] h h' ∧ (True) ∧ ∃ z : Int32, r = some (.inl z) ∧ (((-2) ≤ z.toInt ∧ z.toInt ≤ 30))
set_option maxHeartbeats 4000000 in
set_option maxRecDepth 100000 in
theorem k_X8_anew (h : PH) (hI : INV h)  : CALL d_X8_anew [.inr (.inr (.inl 0))] h (q_X8_anew h) := by
  show RUN d_X8_anew 0 [(0, .inr (.inr (.inl 0)))] [] h _
  have fr : FR [0, 17, 19, 21] h h := FR.rf _ _
  refine R_aload_n (k := 0) rfl rfl rfl ?_
  refine R_getf_r (j := 3) rfl ft_8_28 sh_0 rfl ?_
  have b1 : (0 : Int) ≤ (h.1 17 0).toInt ∧ (h.1 17 0).toInt ≤ 60 := hI.1 17 0
  have e2 : 0 < (h.1 17 10).toInt → 1 ≤ (h.1 17 0).toInt := hI.2.1
  refine R_callV (v := .inr (.inr (.inl 16))) (As := []) (rest := []) rfl mt_8_i146 pp_X1_stands (by decide) rfl rfl rfl (Nat.le_of_ble_eq_true rfl) (Nat.le_of_ble_eq_true rfl) ((k_X1_stands h hI).mono (fun r3 h4 p5 => ?_))
  obtain ⟨rfl, x6, rfl, q7 | q7⟩ := p5
  · show RUN d_X8_anew 7 [(0, .inr (.inr (.inl 0)))] [.inl x6] h _
    refine N_if_ne (a := x6.toInt) 13 rfl rfl rfl (fun c8 => ?_) (fun c8 => ?_)
    · exfalso; omega
    · refine R_bipush (-2) rfl rfl ?_
      exact R_iret rfl rfl rfl ⟨hI, fr, trivial, _, rfl, by rw [show ((-2) : Int32).toInt = (-2) from rfl] <;> omega⟩
  · show RUN d_X8_anew 7 [(0, .inr (.inr (.inl 0)))] [.inl x6] h _
    refine N_if_ne (a := x6.toInt) 13 rfl rfl rfl (fun c9 => ?_) (fun c9 => ?_)
    · refine R_aload_n (k := 0) rfl rfl rfl ?_
      refine R_getf_r (j := 3) rfl ft_8_28 sh_0 rfl ?_
      refine R_getf_r (j := 0) rfl ft_8_109 sh_16 rfl ?_
      refine R_bipush 9 rfl rfl ?_
      refine R_iald rfl sh_17 (by decide) ?_
      have b10 : (0 : Int) ≤ (h.1 17 9).toInt ∧ (h.1 17 9).toInt ≤ 30 := hI.1 17 9
      show RUN d_X8_anew 23 [(0, .inr (.inr (.inl 0)))] [.inl (h.1 17 9)] h _
      refine R_istore_n (k := 1) rfl [(1, .inl (h.1 17 9)), (0, .inr (.inr (.inl 0)))] rfl rfl (by decide) ?_
      refine R_aload_n (k := 0) rfl rfl rfl ?_
      refine R_getf_r (j := 3) rfl ft_8_28 sh_0 rfl ?_
      refine R_iconst 0 rfl rfl ?_
      have k11 : (0 : Int32).toInt = 0 := by decide
      refine R_callV (v := .inr (.inr (.inl 16))) (As := [.inl 0]) (rest := []) rfl mt_8_i380 pp_X1_keepActs (by decide) rfl rfl rfl (Nat.le_of_ble_eq_true rfl) (Nat.le_of_ble_eq_true rfl) ((k_X1_keepActs h hI (0 : Int32) (by decide)).mono (fun r12 h13 p14 => ?_))
      obtain ⟨hJ, fj, ⟨kp15, kp16, -⟩, rfl⟩ := p14
      have f17 := fj
      have fr := fr.trans fj (by decide)
      have hI := hJ
      show RUN d_X8_anew 32 [(1, .inl (h.1 17 9)), (0, .inr (.inr (.inl 0)))] [] h13 _
      refine R_aload_n (k := 0) rfl rfl rfl ?_
      refine R_callV (v := .inr (.inr (.inl 0))) (As := []) (rest := []) rfl mt_8_i377 pp_X8_forget (by decide) rfl rfl rfl (Nat.le_of_ble_eq_true rfl) (Nat.le_of_ble_eq_true rfl) ((k_X8_forget h13 hI).mono (fun r18 h19 p20 => ?_))
      obtain ⟨hJ, fj, -, rfl⟩ := p20
      have f21 := fj
      have fr := fr.trans fj (by decide)
      have hI := hJ
      have s22 : (h19.1 17 10).toInt = (h13.1 17 10).toInt := by rw [(f21 17 (by decide)).1]
      have s23 : (h19.1 17 0).toInt = (h13.1 17 0).toInt := by rw [(f21 17 (by decide)).1]
      show RUN d_X8_anew 36 [(1, .inl (h.1 17 9)), (0, .inr (.inr (.inl 0)))] [] h19 _
      refine R_iload_n (k := 1) rfl rfl rfl ?_
      exact R_iret rfl rfl rfl ⟨hI, fr, trivial, _, rfl, by omega⟩
    · exfalso; omega
abbrev q_X9_anew (h : PH)  : Option PV → PH → Prop := fun r h' => INV h' ∧ FR [97] h h' ∧ (True) ∧ ∃ z : Int32, r = some (.inl z) ∧ (((-2) ≤ z.toInt ∧ z.toInt ≤ 30))
set_option maxHeartbeats 4000000 in
set_option maxRecDepth 100000 in
theorem k_X9_anew (h : PH) (hI : INV h)  : CALL d_X9_anew [.inr (.inr (.inl 96))] h (q_X9_anew h) := by
  show RUN d_X9_anew 0 [(0, .inr (.inr (.inl 96)))] [] h _
  have fr : FR [97] h h := FR.rf _ _
  refine R_aload_n (k := 0) rfl rfl rfl ?_
  have b1 : (0 : Int) ≤ (h.1 97 0).toInt ∧ (h.1 97 0).toInt ≤ 60 := hI.1 97 0
  have e2 : 0 < (h.1 97 10).toInt → 1 ≤ (h.1 97 0).toInt := hI.2.2.2.2.2.1.2.1
  refine R_callV (v := .inr (.inr (.inl 96))) (As := []) (rest := []) rfl mt_9_i301 pp_X9_isBrigade (by decide) rfl rfl rfl (Nat.le_of_ble_eq_true rfl) (Nat.le_of_ble_eq_true rfl) ((k_X9_isBrigade h hI).mono (fun r3 h4 p5 => ?_))
  obtain ⟨rfl, x6, rfl, q7 | q7⟩ := p5
  · show RUN d_X9_anew 4 [(0, .inr (.inr (.inl 96)))] [.inl x6] h _
    refine N_if_ne (a := x6.toInt) 10 rfl rfl rfl (fun c8 => ?_) (fun c8 => ?_)
    · exfalso; omega
    · refine R_bipush (-2) rfl rfl ?_
      exact R_iret rfl rfl rfl ⟨hI, fr, trivial, _, rfl, by rw [show ((-2) : Int32).toInt = (-2) from rfl] <;> omega⟩
  · show RUN d_X9_anew 4 [(0, .inr (.inr (.inl 96)))] [.inl x6] h _
    refine N_if_ne (a := x6.toInt) 10 rfl rfl rfl (fun c9 => ?_) (fun c9 => ?_)
    · refine R_aload_n (k := 0) rfl rfl rfl ?_
      refine R_getf_r (j := 1) rfl ft_9_9 sh_96 rfl ?_
      refine R_bipush 9 rfl rfl ?_
      refine R_iald rfl sh_97 (by decide) ?_
      have b10 : (0 : Int) ≤ (h.1 97 9).toInt ∧ (h.1 97 9).toInt ≤ 30 := hI.1 97 9
      show RUN d_X9_anew 17 [(0, .inr (.inr (.inl 96)))] [.inl (h.1 97 9)] h _
      refine R_istore_n (k := 1) rfl [(1, .inl (h.1 97 9)), (0, .inr (.inr (.inl 96)))] rfl rfl (by decide) ?_
      refine R_aload_n (k := 0) rfl rfl rfl ?_
      refine R_getf_r (j := 1) rfl ft_9_9 sh_96 rfl ?_
      refine R_bipush 9 rfl rfl ?_
      refine R_iconst 0 rfl rfl ?_
      have k13 : (0 : Int32).toInt = 0 := by decide
      refine K_ias9 rfl hI (by omega) fr (by decide) (fun h11 g12 hI fr => ?_)
      have s14 : (h11.1 97 10).toInt = (h.1 97 10).toInt := by rw [g12, show (9 : Int32).toNatClampNeg = 9 from rfl, wI_at (by decide)]
      have s15 : (h11.1 97 0).toInt = (h.1 97 0).toInt := by rw [g12, show (9 : Int32).toNatClampNeg = 9 from rfl, wI_at (by decide)]
      have s16 : (h11.1 97 9).toInt = 0 := by rw [g12, show (9 : Int32).toNatClampNeg = 9 from rfl, wI_is]; rfl
      refine R_iload_n (k := 1) rfl rfl rfl ?_
      exact R_iret rfl rfl rfl ⟨hI, fr, trivial, _, rfl, by omega⟩
    · exfalso; omega
abbrev q_X8_isSeed (h : PH) (a0 : Int32) : Option PV → PH → Prop := fun r h' => h = h' ∧ ∃ z : Int32, r = some (.inl z) ∧ ((z.toInt = 0 ∧ a0.toInt ≤ (-1)) ∨ (z.toInt = 0 ∧ 2000000001 ≤ a0.toInt) ∨ (z.toInt = 1 ∧ 0 ≤ a0.toInt ∧ a0.toInt ≤ 2000000000))
set_option maxHeartbeats 4000000 in
set_option maxRecDepth 100000 in
theorem k_X8_isSeed (h : PH) (hI : INV h) (a0 : Int32) : CALL d_X8_isSeed [.inl a0] h (q_X8_isSeed h a0) := by
  show RUN d_X8_isSeed 0 [(0, .inl a0)] [] h _
  have b1 := i_rng a0
  refine R_iload_n (k := 0) rfl rfl rfl ?_
  refine N_if_lt (a := a0.toInt) 15 rfl rfl rfl (fun c2 => ?_) (fun c2 => ?_)
  · refine R_iconst 0 rfl rfl ?_
    exact R_iret rfl rfl rfl ⟨rfl, _, rfl, by rw [show (0 : Int32).toInt = 0 from rfl] <;> omega⟩
  · refine R_iload_n (k := 0) rfl rfl rfl ?_
    refine R_ldcw_i (x := 2000000000) rfl kt_8_443 ?_
    refine N_icmp_gt (a := a0.toInt) (b := 2000000000) 15 rfl rfl rfl (by decide) (fun c3 => ?_) (fun c3 => ?_)
    · refine R_iconst 0 rfl rfl ?_
      exact R_iret rfl rfl rfl ⟨rfl, _, rfl, by rw [show (0 : Int32).toInt = 0 from rfl] <;> omega⟩
    · refine R_iconst 1 rfl rfl ?_
      refine R_goto 16 rfl rfl ?_
      exact R_iret rfl rfl rfl ⟨rfl, _, rfl, by rw [show (1 : Int32).toInt = 1 from rfl] <;> omega⟩
abbrev q_X8_slipsFrom (h : PH) (a0 : Int64) : Option PV → PH → Prop := fun r h' => h = h' ∧ ∃ z : Int64, r = some (.inr (.inl z))
set_option maxHeartbeats 4000000 in
set_option maxRecDepth 100000 in
theorem k_X8_slipsFrom (h : PH) (hI : INV h) (a0 : Int64) : CALL d_X8_slipsFrom [.inr (.inr (.inl 0)), .inr (.inl a0)] h (q_X8_slipsFrom h a0) := by
  show RUN d_X8_slipsFrom 0 [(0, .inr (.inr (.inl 0))), (1, .inr (.inl a0))] [] h _
  refine R_lconst 0 rfl rfl ?_
  refine R_lstore_n (k := 3) rfl [(3, .inr (.inl 0)), (0, .inr (.inr (.inl 0))), (1, .inr (.inl a0))] rfl rfl (by decide) ?_
  refine R_lload_n (k := 1) rfl rfl rfl ?_
  refine R_lstore (k := 5) [(5, .inr (.inl a0)), (3, .inr (.inl 0)), (0, .inr (.inr (.inl 0))), (1, .inr (.inl a0))] rfl rfl (by decide) ?_
  refine R_iconst 0 rfl rfl ?_
  refine R_istore (k := 7) [(7, .inl 0), (5, .inr (.inl a0)), (3, .inr (.inl 0)), (0, .inr (.inr (.inl 0))), (1, .inr (.inl a0))] rfl rfl (by decide) ?_
  have lp2 : ∀ (n1 : Nat) (w3 : Int64) (w4 : Int64) (x5 : Int32), 0 ≤ x5.toInt ∧ x5.toInt ≤ 60 → (60 - x5.toInt).toNat < n1 → RUN d_X8_slipsFrom 8 [(7, .inl x5), (5, .inr (.inl w3)), (3, .inr (.inl w4)), (0, .inr (.inr (.inl 0))), (1, .inr (.inl a0))] [] h (q_X8_slipsFrom h a0) := by
    intro n1
    induction n1 with
    | zero => intro w3 w4 x5 m7 hz; exact absurd hz (Nat.not_lt_zero _)
    | succ n1 ih6 =>
      intro w3 w4 x5 m7 hz
      refine R_iload (k := 7) rfl rfl ?_
      refine R_aload_n (k := 0) rfl rfl rfl ?_
      refine R_getf_r (j := 3) rfl ft_8_28 sh_0 rfl ?_
      refine R_getf_r (j := 0) rfl ft_8_109 sh_16 rfl ?_
      refine R_iconst 0 rfl rfl ?_
      refine R_iald rfl sh_17 (by decide) ?_
      have b8 : (0 : Int) ≤ (h.1 17 0).toInt ∧ (h.1 17 0).toInt ≤ 60 := hI.1 17 0
      show RUN d_X8_slipsFrom 19 [(7, .inl x5), (5, .inr (.inl w3)), (3, .inr (.inl w4)), (0, .inr (.inr (.inl 0))), (1, .inr (.inl a0))] [.inl (h.1 17 0), .inl x5] h _
      refine N_icmp_ge (a := x5.toInt) (b := (h.1 17 0).toInt) 74 rfl rfl rfl rfl (fun c9 => ?_) (fun c9 => ?_)
      · refine R_lload_n (k := 3) rfl rfl rfl ?_
        exact R_lret rfl rfl ⟨rfl, _, rfl⟩
      · refine R_ldc2 (x := 1103515245) rfl kt_8_444 ?_
        refine R_lload (k := 5) rfl rfl ?_
        refine R_lmul rfl ?_
        refine N_anyL (fun w10 => ?_)
        refine R_ldc2 (x := 12345) rfl kt_8_446 ?_
        refine R_ladd rfl ?_
        refine N_anyL (fun w11 => ?_)
        refine R_ldc2 (x := 2147483647) rfl kt_8_448 ?_
        refine R_land rfl ?_
        refine N_anyL (fun w12 => ?_)
        refine R_lstore (k := 5) [(5, .inr (.inl w12)), (7, .inl x5), (3, .inr (.inl w4)), (0, .inr (.inr (.inl 0))), (1, .inr (.inl a0))] rfl rfl (by decide) ?_
        refine R_lload (k := 5) rfl rfl ?_
        refine R_bipush 16 rfl rfl ?_
        refine R_lshr rfl ?_
        refine N_anyL (fun w13 => ?_)
        refine R_ldc2 (x := 10) rfl kt_8_360 ?_
        refine R_lrem rfl (by decide) ?_
        refine N_anyL (fun w14 => ?_)
        refine R_aload_n (k := 0) rfl rfl rfl ?_
        refine R_getf_r (j := 3) rfl ft_8_28 sh_0 rfl ?_
        refine R_getf_r (j := 0) rfl ft_8_109 sh_16 rfl ?_
        refine R_iconst 4 rfl rfl ?_
        refine R_iald rfl sh_17 (by decide) ?_
        show RUN d_X8_slipsFrom 56 [(5, .inr (.inl w12)), (7, .inl x5), (3, .inr (.inl w4)), (0, .inr (.inr (.inl 0))), (1, .inr (.inl a0))] [.inl (h.1 17 4), .inr (.inl w14)] h _
        refine N_i2l rfl (fun w15 q16 => ?_)
        refine N_lcmp (a := w14.toInt) (b := w15.toInt) rfl rfl rfl (fun x17 q18 => ?_)
        refine N_if_ge (a := x17.toInt) 68 rfl rfl rfl (fun c19 => ?_) (fun c19 => ?_)
        · refine N_iinc (a := x5.toInt) (c := 1) (fun w => [(7, .inl w), (5, .inr (.inl w12)), (3, .inr (.inl w4)), (0, .inr (.inr (.inl 0))), (1, .inr (.inl a0))]) rfl rfl (fun _ => rfl) (by decide) rfl (by decide) (by omega) (fun x20 q21 => ?_)
          refine R_goto 8 rfl rfl ?_
          exact RUN_weak (psub_cons rfl (psub_cons rfl (psub_cons rfl (psub_cons rfl (psub_cons rfl (psub_nil _)))))) (ih6 w12 w4 x20 (by omega) (by omega))
        · refine R_lload_n (k := 3) rfl rfl rfl ?_
          refine R_lconst 1 rfl rfl ?_
          refine R_iload (k := 7) rfl rfl ?_
          refine R_lshl rfl ?_
          refine N_anyL (fun w22 => ?_)
          refine R_lor rfl ?_
          refine N_anyL (fun w23 => ?_)
          refine R_lstore_n (k := 3) rfl [(3, .inr (.inl w23)), (5, .inr (.inl w12)), (7, .inl x5), (0, .inr (.inr (.inl 0))), (1, .inr (.inl a0))] rfl rfl (by decide) ?_
          refine N_iinc (a := x5.toInt) (c := 1) (fun w => [(7, .inl w), (3, .inr (.inl w23)), (5, .inr (.inl w12)), (0, .inr (.inr (.inl 0))), (1, .inr (.inl a0))]) rfl rfl (fun _ => rfl) (by decide) rfl (by decide) (by omega) (fun x24 q25 => ?_)
          refine R_goto 8 rfl rfl ?_
          exact RUN_weak (psub_cons rfl (psub_cons rfl (psub_cons rfl (psub_cons rfl (psub_cons rfl (psub_nil _)))))) (ih6 w12 w23 x24 (by omega) (by omega))
  exact lp2 _ a0 (0 : Int64) (0 : Int32) (by decide) (Nat.lt_succ_self _)
abbrev q_X8_drawn (h : PH) (a0 : Int32) (a1 : Int32) : Option PV → PH → Prop := fun r h' => INV h' ∧ FR [70, 71, 72, 73, 74] h h' ∧ (True) ∧ ∃ z : Int32, r = some (.inl z) ∧ (((-2) ≤ z.toInt ∧ z.toInt ≤ 127))
set_option maxHeartbeats 4000000 in
set_option maxRecDepth 100000 in
theorem k_X8_drawn (h : PH) (hI : INV h) (a0 : Int32) (a1 : Int32) : CALL d_X8_drawn [.inr (.inr (.inl 0)), .inl a0, .inl a1] h (q_X8_drawn h a0 a1) := by
  show RUN d_X8_drawn 0 [(0, .inr (.inr (.inl 0))), (1, .inl a0), (2, .inl a1)] [] h _
  have b1 := i_rng a0
  have b2 := i_rng a1
  have fr : FR [70, 71, 72, 73, 74] h h := FR.rf _ _
  refine R_aload_n (k := 0) rfl rfl rfl ?_
  refine R_getf_r (j := 3) rfl ft_8_28 sh_0 rfl ?_
  have b3 : (0 : Int) ≤ (h.1 17 0).toInt ∧ (h.1 17 0).toInt ≤ 60 := hI.1 17 0
  have e4 : 0 < (h.1 17 10).toInt → 1 ≤ (h.1 17 0).toInt := hI.2.1
  refine R_callV (v := .inr (.inr (.inl 16))) (As := []) (rest := []) rfl mt_8_i146 pp_X1_stands (by decide) rfl rfl rfl (Nat.le_of_ble_eq_true rfl) (Nat.le_of_ble_eq_true rfl) ((k_X1_stands h hI).mono (fun r5 h6 p7 => ?_))
  obtain ⟨rfl, x8, rfl, q9 | q9⟩ := p7
  · show RUN d_X8_drawn 7 [(0, .inr (.inr (.inl 0))), (1, .inl a0), (2, .inl a1)] [.inl x8] h _
    refine N_if_eq (a := x8.toInt) 26 rfl rfl rfl (fun c10 => ?_) (fun c10 => ?_)
    · refine R_bipush (-2) rfl rfl ?_
      exact R_iret rfl rfl rfl ⟨hI, fr, trivial, _, rfl, by rw [show ((-2) : Int32).toInt = (-2) from rfl] <;> omega⟩
    · exfalso; omega
  · show RUN d_X8_drawn 7 [(0, .inr (.inr (.inl 0))), (1, .inl a0), (2, .inl a1)] [.inl x8] h _
    refine N_if_eq (a := x8.toInt) 26 rfl rfl rfl (fun c11 => ?_) (fun c11 => ?_)
    · exfalso; omega
    · refine R_iload_n (k := 1) rfl rfl rfl ?_
      refine R_callS (As := [.inl a0]) (rest := []) rfl mt_8_i366 (by decide) pp_X8_isSeed (by decide) rfl rfl (Nat.le_of_ble_eq_true rfl) (Nat.le_of_ble_eq_true rfl) ((k_X8_isSeed h hI a0).mono (fun r12 h13 p14 => ?_))
      obtain ⟨rfl, x15, rfl, q16 | q16 | q16⟩ := p14
      · show RUN d_X8_drawn 14 [(0, .inr (.inr (.inl 0))), (1, .inl a0), (2, .inl a1)] [.inl x15] h _
        refine N_if_eq (a := x15.toInt) 26 rfl rfl rfl (fun c17 => ?_) (fun c17 => ?_)
        · refine R_bipush (-2) rfl rfl ?_
          exact R_iret rfl rfl rfl ⟨hI, fr, trivial, _, rfl, by rw [show ((-2) : Int32).toInt = (-2) from rfl] <;> omega⟩
        · exfalso; omega
      · show RUN d_X8_drawn 14 [(0, .inr (.inr (.inl 0))), (1, .inl a0), (2, .inl a1)] [.inl x15] h _
        refine N_if_eq (a := x15.toInt) 26 rfl rfl rfl (fun c18 => ?_) (fun c18 => ?_)
        · refine R_bipush (-2) rfl rfl ?_
          exact R_iret rfl rfl rfl ⟨hI, fr, trivial, _, rfl, by rw [show ((-2) : Int32).toInt = (-2) from rfl] <;> omega⟩
        · exfalso; omega
      · show RUN d_X8_drawn 14 [(0, .inr (.inr (.inl 0))), (1, .inl a0), (2, .inl a1)] [.inl x15] h _
        refine N_if_eq (a := x15.toInt) 26 rfl rfl rfl (fun c19 => ?_) (fun c19 => ?_)
        · exfalso; omega
        · refine R_iload_n (k := 2) rfl rfl rfl ?_
          refine N_if_lt (a := a1.toInt) 26 rfl rfl rfl (fun c20 => ?_) (fun c20 => ?_)
          · refine R_bipush (-2) rfl rfl ?_
            exact R_iret rfl rfl rfl ⟨hI, fr, trivial, _, rfl, by rw [show ((-2) : Int32).toInt = (-2) from rfl] <;> omega⟩
          · refine R_iload_n (k := 2) rfl rfl rfl ?_
            refine R_iconst 2 rfl rfl ?_
            refine N_icmp_le (a := a1.toInt) (b := 2) 29 rfl rfl rfl (by decide) (fun c21 => ?_) (fun c21 => ?_)
            · refine R_aload_n (k := 0) rfl rfl rfl ?_
              refine R_iload_n (k := 1) rfl rfl rfl ?_
              refine N_i2l rfl (fun w22 q23 => ?_)
              refine R_callV (v := .inr (.inr (.inl 0))) (As := [.inr (.inl w22)]) (rest := []) rfl mt_8_i369 pp_X8_slipsFrom (by decide) rfl rfl rfl (Nat.le_of_ble_eq_true rfl) (Nat.le_of_ble_eq_true rfl) ((k_X8_slipsFrom h hI w22).mono (fun r24 h25 p26 => ?_))
              obtain ⟨rfl, w27, rfl⟩ := p26
              show RUN d_X8_drawn 35 [(0, .inr (.inr (.inl 0))), (1, .inl a0), (2, .inl a1)] [.inr (.inl w27)] h _
              refine R_lstore_n (k := 3) rfl [(3, .inr (.inl w27)), (0, .inr (.inr (.inl 0))), (1, .inl a0), (2, .inl a1)] rfl rfl (by decide) ?_
              refine R_iload_n (k := 2) rfl rfl rfl ?_
              refine N_if_ne (a := a1.toInt) 45 rfl rfl rfl (fun c28 => ?_) (fun c28 => ?_)
              · refine R_aload_n (k := 0) rfl rfl rfl ?_
                refine R_callV (v := .inr (.inr (.inl 0))) (As := []) (rest := []) rfl mt_8_i237 pp_X8_lineAsNow (by decide) rfl rfl rfl (Nat.le_of_ble_eq_true rfl) (Nat.le_of_ble_eq_true rfl) ((k_X8_lineAsNow h hI).mono (fun r29 h30 p31 => ?_))
                obtain ⟨hJ, fj, -, rfl⟩ := p31
                have f32 := fj
                have fr := fr.trans fj (by decide)
                have hI := hJ
                have s33 : (h30.1 17 10).toInt = (h.1 17 10).toInt := by rw [(f32 17 (by decide)).1]
                have s34 : (h30.1 17 0).toInt = (h.1 17 0).toInt := by rw [(f32 17 (by decide)).1]
                show RUN d_X8_drawn 49 [(3, .inr (.inl w27)), (0, .inr (.inr (.inl 0))), (1, .inl a0), (2, .inl a1)] [] h30 _
                refine R_aload_n (k := 0) rfl rfl rfl ?_
                refine R_getf_r (j := 7) rfl ft_8_49 sh_0 rfl ?_
                refine R_aload_n (k := 0) rfl rfl rfl ?_
                refine R_getf_r (j := 3) rfl ft_8_28 sh_0 rfl ?_
                refine R_getf_r (j := 0) rfl ft_8_109 sh_16 rfl ?_
                refine R_iconst 0 rfl rfl ?_
                refine R_iald rfl sh_17 (by decide) ?_
                show RUN d_X8_drawn 62 [(3, .inr (.inl w27)), (0, .inr (.inr (.inl 0))), (1, .inl a0), (2, .inl a1)] [.inl (h30.1 17 0), .inr (.inr (.inl 70))] h30 _
                refine R_lload_n (k := 3) rfl rfl rfl ?_
                refine R_callV (v := .inr (.inr (.inl 70))) (As := [.inl (h30.1 17 0), .inr (.inl w27)]) (rest := []) rfl mt_8_i347 pp_X2_play (by decide) rfl rfl rfl (Nat.le_of_ble_eq_true rfl) (Nat.le_of_ble_eq_true rfl) ((k_X2_play h30 hI (h30.1 17 0) w27 (by omega)).mono (fun r35 h36 p37 => ?_))
                obtain ⟨hJ, fj, ⟨kp38, -⟩, w39, rfl⟩ := p37
                have f40 := fj
                have fr := fr.trans fj (by decide)
                have hI := hJ
                have s41 : (h36.1 17 10).toInt = (h30.1 17 10).toInt := by rw [(f40 17 (by decide)).1]
                have s42 : (h36.1 17 0).toInt = (h30.1 17 0).toInt := by rw [(f40 17 (by decide)).1]
                show RUN d_X8_drawn 66 [(3, .inr (.inl w27)), (0, .inr (.inr (.inl 0))), (1, .inl a0), (2, .inl a1)] [.inr (.inl w39)] h36 _
                refine R_lstore (k := 5) [(5, .inr (.inl w39)), (3, .inr (.inl w27)), (0, .inr (.inr (.inl 0))), (1, .inl a0), (2, .inl a1)] rfl rfl (by decide) ?_
                refine R_iload_n (k := 2) rfl rfl rfl ?_
                refine R_iconst 1 rfl rfl ?_
                refine N_icmp_ne (a := a1.toInt) (b := 1) 81 rfl rfl rfl (by decide) (fun c43 => ?_) (fun c43 => ?_)
                · refine R_aload_n (k := 0) rfl rfl rfl ?_
                  refine R_lload (k := 5) rfl rfl ?_
                  refine R_aload_n (k := 0) rfl rfl rfl ?_
                  refine R_getf_r (j := 7) rfl ft_8_49 sh_0 rfl ?_
                  refine R_callV (v := .inr (.inr (.inl 70))) (As := []) (rest := [.inr (.inl w39), .inr (.inr (.inl 0))]) rfl mt_8_i247 pp_X2_poured (by decide) rfl rfl rfl (Nat.le_of_ble_eq_true rfl) (Nat.le_of_ble_eq_true rfl) ((k_X2_poured h36 hI).mono (fun r44 h45 p46 => ?_))
                  obtain ⟨rfl, x47, rfl, q48⟩ := p46
                  show RUN d_X8_drawn 91 [(5, .inr (.inl w39)), (3, .inr (.inl w27)), (0, .inr (.inr (.inl 0))), (1, .inl a0), (2, .inl a1)] [.inl x47, .inr (.inl w39), .inr (.inr (.inl 0))] h36 _
                  refine R_callV (v := .inr (.inr (.inl 0))) (As := [.inr (.inl w39), .inl x47]) (rest := []) rfl mt_8_i219 pp_X8_outBy (by decide) rfl rfl rfl (Nat.le_of_ble_eq_true rfl) (Nat.le_of_ble_eq_true rfl) ((k_X8_outBy h36 hI w39 x47).mono (fun r49 h50 p51 => ?_))
                  obtain ⟨rfl, x52, rfl, q53⟩ := p51
                  show RUN d_X8_drawn 94 [(5, .inr (.inl w39)), (3, .inr (.inl w27)), (0, .inr (.inr (.inl 0))), (1, .inl a0), (2, .inl a1)] [.inl x52] h36 _
                  exact R_iret rfl rfl rfl ⟨hI, fr, trivial, _, rfl, by omega⟩
                · refine R_lload (k := 5) rfl rfl ?_
                  refine R_callS (As := [.inr (.inl w39)]) (rest := []) rfl mt_8_i351 (by decide) pp_J13_bitCount_95d88 (by decide) rfl rfl (Nat.le_of_ble_eq_true rfl) (Nat.le_of_ble_eq_true rfl) ((k_J13_bitCount_95d88 h36 hI w39).mono (fun r54 h55 p56 => ?_))
                  obtain ⟨rfl, x57, rfl, q58⟩ := p56
                  show RUN d_X8_drawn 78 [(5, .inr (.inl w39)), (3, .inr (.inl w27)), (0, .inr (.inr (.inl 0))), (1, .inl a0), (2, .inl a1)] [.inl x57] h36 _
                  refine R_goto 94 rfl rfl ?_
                  exact R_iret rfl rfl rfl ⟨hI, fr, trivial, _, rfl, by omega⟩
              · refine R_lload_n (k := 3) rfl rfl rfl ?_
                refine R_callS (As := [.inr (.inl w27)]) (rest := []) rfl mt_8_i351 (by decide) pp_J13_bitCount_95d88 (by decide) rfl rfl (Nat.le_of_ble_eq_true rfl) (Nat.le_of_ble_eq_true rfl) ((k_J13_bitCount_95d88 h hI w27).mono (fun r59 h60 p61 => ?_))
                obtain ⟨rfl, x62, rfl, q63⟩ := p61
                show RUN d_X8_drawn 44 [(3, .inr (.inl w27)), (0, .inr (.inr (.inl 0))), (1, .inl a0), (2, .inl a1)] [.inl x62] h _
                exact R_iret rfl rfl rfl ⟨hI, fr, trivial, _, rfl, by omega⟩
            · refine R_bipush (-2) rfl rfl ?_
              exact R_iret rfl rfl rfl ⟨hI, fr, trivial, _, rfl, by rw [show ((-2) : Int32).toInt = (-2) from rfl] <;> omega⟩
abbrev q_X9_isSeed (h : PH) (a0 : Int32) : Option PV → PH → Prop := fun r h' => h = h' ∧ ∃ z : Int32, r = some (.inl z) ∧ ((z.toInt = 0 ∧ a0.toInt ≤ (-1)) ∨ (z.toInt = 0 ∧ 2000000001 ≤ a0.toInt) ∨ (z.toInt = 1 ∧ 0 ≤ a0.toInt ∧ a0.toInt ≤ 2000000000))
set_option maxHeartbeats 4000000 in
set_option maxRecDepth 100000 in
theorem k_X9_isSeed (h : PH) (hI : INV h) (a0 : Int32) : CALL d_X9_isSeed [.inl a0] h (q_X9_isSeed h a0) := by
  show RUN d_X9_isSeed 0 [(0, .inl a0)] [] h _
  have b1 := i_rng a0
  refine R_iload_n (k := 0) rfl rfl rfl ?_
  refine N_i2l rfl (fun w2 q3 => ?_)
  refine R_lconst 0 rfl rfl ?_
  refine R_ldc2 (x := 2000000000) rfl kt_9_516 ?_
  have k4 : (0 : Int64).toInt = 0 := by decide
  have k5 : (2000000000 : Int64).toInt = 2000000000 := by decide
  refine R_callS (As := [.inr (.inl w2), .inr (.inl 0), .inr (.inl 2000000000)]) (rest := []) rfl mt_9_i125 (by decide) pp_X9_in (by decide) rfl rfl (Nat.le_of_ble_eq_true rfl) (Nat.le_of_ble_eq_true rfl) ((k_X9_in h hI w2 (0 : Int64) (2000000000 : Int64)).mono (fun r6 h7 p8 => ?_))
  obtain ⟨rfl, x9, rfl, q10 | q10 | q10⟩ := p8
  · show RUN d_X9_isSeed 9 [(0, .inl a0)] [.inl x9] h _
    exact R_iret rfl rfl (nar_z (by omega)) ⟨rfl, _, rfl, by omega⟩
  · show RUN d_X9_isSeed 9 [(0, .inl a0)] [.inl x9] h _
    exact R_iret rfl rfl (nar_z (by omega)) ⟨rfl, _, rfl, by omega⟩
  · show RUN d_X9_isSeed 9 [(0, .inl a0)] [.inl x9] h _
    exact R_iret rfl rfl (nar_z (by omega)) ⟨rfl, _, rfl, by omega⟩
abbrev q_X9_goDrawn (h : PH) (a0 : Int64) : Option PV → PH → Prop := fun r h' => INV h' ∧ FR [96, 103, 104, 105, 106, 107, 108, 109, 110, 111, 112, 113, 114, 115, 116, 117, 118, 119] h h' ∧ (True) ∧ ∃ z : Int32, r = some (.inl z) ∧ (((-2147483648) ≤ z.toInt ∧ z.toInt ≤ 60))
set_option maxHeartbeats 4000000 in
set_option maxRecDepth 100000 in
theorem k_X9_goDrawn (h : PH) (hI : INV h) (a0 : Int64) : CALL d_X9_goDrawn [.inr (.inr (.inl 96)), .inr (.inl a0)] h (q_X9_goDrawn h a0) := by
  show RUN d_X9_goDrawn 0 [(0, .inr (.inr (.inl 96))), (1, .inr (.inl a0))] [] h _
  have fr : FR [96, 103, 104, 105, 106, 107, 108, 109, 110, 111, 112, 113, 114, 115, 116, 117, 118, 119] h h := FR.rf _ _
  refine R_aload_n (k := 0) rfl rfl rfl ?_
  refine R_callV (v := .inr (.inr (.inl 96))) (As := []) (rest := []) rfl mt_9_i298 pp_X9_asItIs (by decide) rfl rfl rfl (Nat.le_of_ble_eq_true rfl) (Nat.le_of_ble_eq_true rfl) ((k_X9_asItIs h hI).mono (fun r1 h2 p3 => ?_))
  obtain ⟨hJ, fj, ⟨kp4, -⟩, rfl⟩ := p3
  have f5 := fj
  have fr := fr.trans fj (by decide)
  have hI := hJ
  show RUN d_X9_goDrawn 4 [(0, .inr (.inr (.inl 96))), (1, .inr (.inl a0))] [] h2 _
  refine R_lload_n (k := 1) rfl rfl rfl ?_
  refine R_lstore_n (k := 3) rfl [(3, .inr (.inl a0)), (0, .inr (.inr (.inl 96))), (1, .inr (.inl a0))] rfl rfl (by decide) ?_
  refine R_iconst 0 rfl rfl ?_
  refine R_istore (k := 5) [(5, .inl 0), (3, .inr (.inl a0)), (0, .inr (.inr (.inl 96))), (1, .inr (.inl a0))] rfl rfl (by decide) ?_
  refine R_iconst 0 rfl rfl ?_
  refine R_istore (k := 6) [(6, .inl 0), (5, .inl 0), (3, .inr (.inl a0)), (0, .inr (.inr (.inl 96))), (1, .inr (.inl a0))] rfl rfl (by decide) ?_
  have lp7 : ∀ (n6 : Nat) (h8 : PH) (w10 : Int64) (x11 : Int32) (x12 : Int32), INV h8 → FR [96, 103, 104, 105, 106, 107, 108, 109, 110, 111, 112, 113, 114, 115, 116, 117, 118, 119] h h8 → FR [96, 106, 107, 108, 109, 110, 111, 112, 113, 114, 115, 116, 117, 118, 119] h2 h8 → x11.toInt ≤ 60 → 0 ≤ x12.toInt ∧ x12.toInt ≤ 60 → x11.toInt ≤ x12.toInt + 0 → (60 - x12.toInt).toNat < n6 → RUN d_X9_goDrawn 12 [(6, .inl x12), (5, .inl x11), (3, .inr (.inl w10)), (0, .inr (.inr (.inl 96))), (1, .inr (.inl a0))] [] h8 (q_X9_goDrawn h a0) := by
    intro n6
    induction n6 with
    | zero => intro h8 w10 x11 x12 m14 m15 m16 m17 m18 m19 hz; exact absurd hz (Nat.not_lt_zero _)
    | succ n6 ih13 =>
      intro h8 w10 x11 x12 hI fr fl9 m17 m18 m19 hz
      refine R_iload (k := 6) rfl rfl ?_
      refine R_aload_n (k := 0) rfl rfl rfl ?_
      have b20 : (0 : Int) ≤ (h8.1 97 0).toInt ∧ (h8.1 97 0).toInt ≤ 60 := hI.1 97 0
      refine R_callV (v := .inr (.inr (.inl 96))) (As := []) (rest := [.inl x12]) rfl mt_9_i129 pp_X9_last (by decide) rfl rfl rfl (Nat.le_of_ble_eq_true rfl) (Nat.le_of_ble_eq_true rfl) ((k_X9_last h8 hI).mono (fun r21 h22 p23 => ?_))
      obtain ⟨rfl, x24, rfl, q25⟩ := p23
      show RUN d_X9_goDrawn 18 [(6, .inl x12), (5, .inl x11), (3, .inr (.inl w10)), (0, .inr (.inr (.inl 96))), (1, .inr (.inl a0))] [.inl x24, .inl x12] h8 _
      refine N_icmp_gt (a := x12.toInt) (b := x24.toInt) 93 rfl rfl rfl rfl (fun c26 => ?_) (fun c26 => ?_)
      · refine R_aload_n (k := 0) rfl rfl rfl ?_
        refine R_aload_n (k := 0) rfl rfl rfl ?_
        refine R_callV (v := .inr (.inr (.inl 96))) (As := []) (rest := [.inr (.inr (.inl 96))]) rfl mt_9_i129 pp_X9_last (by decide) rfl rfl rfl (Nat.le_of_ble_eq_true rfl) (Nat.le_of_ble_eq_true rfl) ((k_X9_last h8 hI).mono (fun r27 h28 p29 => ?_))
        obtain ⟨rfl, x30, rfl, q31⟩ := p29
        show RUN d_X9_goDrawn 98 [(6, .inl x12), (5, .inl x11), (3, .inr (.inl w10)), (0, .inr (.inr (.inl 96))), (1, .inr (.inl a0))] [.inl x30, .inr (.inr (.inl 96))] h8 _
        refine R_callV (v := .inr (.inr (.inl 96))) (As := [.inl x30]) (rest := []) rfl mt_9_i304 pp_X9_goAll (by decide) rfl rfl rfl (Nat.le_of_ble_eq_true rfl) (Nat.le_of_ble_eq_true rfl) ((k_X9_goAll h8 hI x30 (by omega)).mono (fun r32 h33 p34 => ?_))
        obtain ⟨hJ, fj, ⟨kp35, kp36, kp37, kp38, kp39, kp40, kp41, kp42, -⟩, rfl⟩ := p34
        have f43 := fj
        have fr := fr.trans fj (by decide)
        have hI := hJ
        have fl9 : FR [96, 106, 107, 108, 109, 110, 111, 112, 113, 114, 115, 116, 117, 118, 119] h2 h33 := fl9.trans fj (by decide)
        have s44 : (h33.1 97 0).toInt = (h8.1 97 0).toInt := by rw [(f43 97 (by decide)).1]
        show RUN d_X9_goDrawn 101 [(6, .inl x12), (5, .inl x11), (3, .inr (.inl w10)), (0, .inr (.inr (.inl 96))), (1, .inr (.inl a0))] [] h33 _
        refine R_iload (k := 5) rfl rfl ?_
        have b45 := i_rng x11
        exact R_iret rfl rfl rfl ⟨hI, fr, trivial, _, rfl, by omega⟩
      · refine R_ldc2 (x := 1103515245) rfl kt_9_506 ?_
        refine R_lload_n (k := 3) rfl rfl rfl ?_
        refine R_lmul rfl ?_
        refine N_anyL (fun w46 => ?_)
        refine R_ldc2 (x := 12345) rfl kt_9_508 ?_
        refine R_ladd rfl ?_
        refine N_anyL (fun w47 => ?_)
        refine R_ldc2 (x := 2147483648) rfl kt_9_510 ?_
        refine R_lrem rfl (by decide) ?_
        refine N_anyL (fun w48 => ?_)
        refine R_lstore_n (k := 3) rfl [(3, .inr (.inl w48)), (6, .inl x12), (5, .inl x11), (0, .inr (.inr (.inl 96))), (1, .inr (.inl a0))] rfl rfl (by decide) ?_
        refine R_aload_n (k := 0) rfl rfl rfl ?_
        refine R_getf_r (j := 21) rfl ft_9_43 sh_96 rfl ?_
        refine R_iload (k := 6) rfl rfl ?_
        refine R_lload_n (k := 3) rfl rfl rfl ?_
        refine R_ldc2 (x := 65536) rfl kt_9_512 ?_
        refine R_ldiv rfl (by decide) ?_
        refine N_anyL (fun w49 => ?_)
        refine R_ldc2 (x := 10) rfl kt_9_514 ?_
        refine R_lrem rfl (by decide) ?_
        refine N_anyL (fun w50 => ?_)
        refine R_aload_n (k := 0) rfl rfl rfl ?_
        refine R_getf_r (j := 1) rfl ft_9_9 sh_96 rfl ?_
        refine R_iconst 4 rfl rfl ?_
        refine R_iald rfl sh_97 (by decide) ?_
        have b51 : (0 : Int) ≤ (h8.1 97 4).toInt ∧ (h8.1 97 4).toInt ≤ 10 := hI.1 97 4
        show RUN d_X9_goDrawn 56 [(3, .inr (.inl w48)), (6, .inl x12), (5, .inl x11), (0, .inr (.inr (.inl 96))), (1, .inr (.inl a0))] [.inl (h8.1 97 4), .inr (.inl w50), .inl x12, .inr (.inr (.inl 106))] h8 _
        refine N_i2l rfl (fun w52 q53 => ?_)
        refine N_lcmp (a := w50.toInt) (b := w52.toInt) rfl rfl rfl (fun x54 q55 => ?_)
        refine N_if_ge (a := x54.toInt) 65 rfl rfl rfl (fun c56 => ?_) (fun c56 => ?_)
        · refine R_iconst 0 rfl rfl ?_
          refine K_zast (a := x12.toInt) rfl sh_106 rfl ⟨by omega, by omega⟩ hI (by decide) rfl fr (by decide) (fun h57 g58 hI fr => ?_)
          have fl9 : FR [96, 106, 107, 108, 109, 110, 111, 112, 113, 114, 115, 116, 117, 118, 119] h2 h57 := by rw [g58]; exact FR_wI _ _ fl9 (by decide)
          have s59 : (h57.1 97 0).toInt = (h8.1 97 0).toInt := by rw [g58, wI_ne _ _ _ (by decide)]
          have s60 : (h57.1 97 4).toInt = (h8.1 97 4).toInt := by rw [g58, wI_ne _ _ _ (by decide)]
          refine R_iload (k := 5) rfl rfl ?_
          refine R_aload_n (k := 0) rfl rfl rfl ?_
          refine R_getf_r (j := 21) rfl ft_9_43 sh_96 rfl ?_
          refine R_iload (k := 6) rfl rfl ?_
          refine R_zald rfl sh_106 ⟨by omega, by omega⟩ ?_
          refine N_any (fun x61 => ?_)
          refine N_if_eq (a := x61.toInt) 83 rfl rfl rfl (fun c62 => ?_) (fun c62 => ?_)
          · refine R_iconst 0 rfl rfl ?_
            have b63 := i_rng x11
            refine N_iadd (a := x11.toInt) (b := 0) rfl rfl (by decide) (by omega) (fun x64 q65 => ?_)
            refine R_istore (k := 5) [(5, .inl x64), (3, .inr (.inl w48)), (6, .inl x12), (0, .inr (.inr (.inl 96))), (1, .inr (.inl a0))] rfl rfl (by decide) ?_
            refine N_iinc (a := x12.toInt) (c := 1) (fun w => [(6, .inl w), (5, .inl x64), (3, .inr (.inl w48)), (0, .inr (.inr (.inl 96))), (1, .inr (.inl a0))]) rfl rfl (fun _ => rfl) (by decide) rfl (by decide) (by omega) (fun x66 q67 => ?_)
            refine R_goto 12 rfl rfl ?_
            have b68 := i_rng x64
            exact RUN_weak (psub_cons rfl (psub_cons rfl (psub_cons rfl (psub_cons rfl (psub_cons rfl (psub_nil _)))))) (ih13 h57 w48 x64 x66 hI fr fl9 (by omega) (by omega) (by omega) (by omega))
          · refine R_iconst 1 rfl rfl ?_
            refine R_goto 84 rfl rfl ?_
            have b69 := i_rng x11
            refine N_iadd (a := x11.toInt) (b := 1) rfl rfl (by decide) (by omega) (fun x70 q71 => ?_)
            refine R_istore (k := 5) [(5, .inl x70), (3, .inr (.inl w48)), (6, .inl x12), (0, .inr (.inr (.inl 96))), (1, .inr (.inl a0))] rfl rfl (by decide) ?_
            refine N_iinc (a := x12.toInt) (c := 1) (fun w => [(6, .inl w), (5, .inl x70), (3, .inr (.inl w48)), (0, .inr (.inr (.inl 96))), (1, .inr (.inl a0))]) rfl rfl (fun _ => rfl) (by decide) rfl (by decide) (by omega) (fun x72 q73 => ?_)
            refine R_goto 12 rfl rfl ?_
            have b74 := i_rng x70
            exact RUN_weak (psub_cons rfl (psub_cons rfl (psub_cons rfl (psub_cons rfl (psub_cons rfl (psub_nil _)))))) (ih13 h57 w48 x70 x72 hI fr fl9 (by omega) (by omega) (by omega) (by omega))
        · refine R_iconst 1 rfl rfl ?_
          refine R_goto 66 rfl rfl ?_
          refine K_zast (a := x12.toInt) rfl sh_106 rfl ⟨by omega, by omega⟩ hI (by decide) rfl fr (by decide) (fun h75 g76 hI fr => ?_)
          have fl9 : FR [96, 106, 107, 108, 109, 110, 111, 112, 113, 114, 115, 116, 117, 118, 119] h2 h75 := by rw [g76]; exact FR_wI _ _ fl9 (by decide)
          have s77 : (h75.1 97 0).toInt = (h8.1 97 0).toInt := by rw [g76, wI_ne _ _ _ (by decide)]
          have s78 : (h75.1 97 4).toInt = (h8.1 97 4).toInt := by rw [g76, wI_ne _ _ _ (by decide)]
          refine R_iload (k := 5) rfl rfl ?_
          refine R_aload_n (k := 0) rfl rfl rfl ?_
          refine R_getf_r (j := 21) rfl ft_9_43 sh_96 rfl ?_
          refine R_iload (k := 6) rfl rfl ?_
          refine R_zald rfl sh_106 ⟨by omega, by omega⟩ ?_
          refine N_any (fun x79 => ?_)
          refine N_if_eq (a := x79.toInt) 83 rfl rfl rfl (fun c80 => ?_) (fun c80 => ?_)
          · refine R_iconst 0 rfl rfl ?_
            have b81 := i_rng x11
            refine N_iadd (a := x11.toInt) (b := 0) rfl rfl (by decide) (by omega) (fun x82 q83 => ?_)
            refine R_istore (k := 5) [(5, .inl x82), (3, .inr (.inl w48)), (6, .inl x12), (0, .inr (.inr (.inl 96))), (1, .inr (.inl a0))] rfl rfl (by decide) ?_
            refine N_iinc (a := x12.toInt) (c := 1) (fun w => [(6, .inl w), (5, .inl x82), (3, .inr (.inl w48)), (0, .inr (.inr (.inl 96))), (1, .inr (.inl a0))]) rfl rfl (fun _ => rfl) (by decide) rfl (by decide) (by omega) (fun x84 q85 => ?_)
            refine R_goto 12 rfl rfl ?_
            have b86 := i_rng x82
            exact RUN_weak (psub_cons rfl (psub_cons rfl (psub_cons rfl (psub_cons rfl (psub_cons rfl (psub_nil _)))))) (ih13 h75 w48 x82 x84 hI fr fl9 (by omega) (by omega) (by omega) (by omega))
          · refine R_iconst 1 rfl rfl ?_
            refine R_goto 84 rfl rfl ?_
            have b87 := i_rng x11
            refine N_iadd (a := x11.toInt) (b := 1) rfl rfl (by decide) (by omega) (fun x88 q89 => ?_)
            refine R_istore (k := 5) [(5, .inl x88), (3, .inr (.inl w48)), (6, .inl x12), (0, .inr (.inr (.inl 96))), (1, .inr (.inl a0))] rfl rfl (by decide) ?_
            refine N_iinc (a := x12.toInt) (c := 1) (fun w => [(6, .inl w), (5, .inl x88), (3, .inr (.inl w48)), (0, .inr (.inr (.inl 96))), (1, .inr (.inl a0))]) rfl rfl (fun _ => rfl) (by decide) rfl (by decide) (by omega) (fun x90 q91 => ?_)
            refine R_goto 12 rfl rfl ?_
            have b92 := i_rng x88
            exact RUN_weak (psub_cons rfl (psub_cons rfl (psub_cons rfl (psub_cons rfl (psub_cons rfl (psub_nil _)))))) (ih13 h75 w48 x88 x90 hI fr fl9 (by omega) (by omega) (by omega) (by omega))
  have k93 : (0 : Int32).toInt = 0 := by decide
  have k94 : (0 : Int32).toInt = 0 := by decide
  exact lp7 _ h2 a0 (0 : Int32) (0 : Int32) hI fr (FR.rf _ _) (by decide) (by decide) (by omega) (Nat.lt_succ_self _)
abbrev q_X9_drawn (h : PH) (a0 : Int32) (a1 : Int32) : Option PV → PH → Prop := fun r h' => INV h' ∧ FR [96, 103, 104, 105, 106, 107, 108, 109, 110, 111, 112, 113, 114, 115, 116, 117, 118, 119, 120] h h' ∧ (True) ∧ ∃ z : Int32, r = some (.inl z) ∧ ((True))
set_option maxHeartbeats 4000000 in
set_option maxRecDepth 100000 in
theorem k_X9_drawn (h : PH) (hI : INV h) (a0 : Int32) (a1 : Int32) : CALL d_X9_drawn [.inr (.inr (.inl 96)), .inl a0, .inl a1] h (q_X9_drawn h a0 a1) := by
  show RUN d_X9_drawn 0 [(0, .inr (.inr (.inl 96))), (1, .inl a0), (2, .inl a1)] [] h _
  have b1 := i_rng a0
  have b2 := i_rng a1
  have fr : FR [96, 103, 104, 105, 106, 107, 108, 109, 110, 111, 112, 113, 114, 115, 116, 117, 118, 119, 120] h h := FR.rf _ _
  refine R_aload_n (k := 0) rfl rfl rfl ?_
  have b3 : (0 : Int) ≤ (h.1 97 0).toInt ∧ (h.1 97 0).toInt ≤ 60 := hI.1 97 0
  have e4 : 0 < (h.1 97 10).toInt → 1 ≤ (h.1 97 0).toInt := hI.2.2.2.2.2.1.2.1
  refine R_callV (v := .inr (.inr (.inl 96))) (As := []) (rest := []) rfl mt_9_i301 pp_X9_isBrigade (by decide) rfl rfl rfl (Nat.le_of_ble_eq_true rfl) (Nat.le_of_ble_eq_true rfl) ((k_X9_isBrigade h hI).mono (fun r5 h6 p7 => ?_))
  obtain ⟨rfl, x8, rfl, q9 | q9⟩ := p7
  · show RUN d_X9_drawn 4 [(0, .inr (.inr (.inl 96))), (1, .inl a0), (2, .inl a1)] [.inl x8] h _
    refine N_if_eq (a := x8.toInt) 26 rfl rfl rfl (fun c10 => ?_) (fun c10 => ?_)
    · refine R_bipush (-2) rfl rfl ?_
      exact R_iret rfl rfl rfl ⟨hI, fr, trivial, _, rfl, trivial⟩
    · exfalso; omega
  · show RUN d_X9_drawn 4 [(0, .inr (.inr (.inl 96))), (1, .inl a0), (2, .inl a1)] [.inl x8] h _
    refine N_if_eq (a := x8.toInt) 26 rfl rfl rfl (fun c11 => ?_) (fun c11 => ?_)
    · exfalso; omega
    · refine R_iload_n (k := 1) rfl rfl rfl ?_
      refine R_callS (As := [.inl a0]) (rest := []) rfl mt_9_i518 (by decide) pp_X9_isSeed (by decide) rfl rfl (Nat.le_of_ble_eq_true rfl) (Nat.le_of_ble_eq_true rfl) ((k_X9_isSeed h hI a0).mono (fun r12 h13 p14 => ?_))
      obtain ⟨rfl, x15, rfl, q16 | q16 | q16⟩ := p14
      · show RUN d_X9_drawn 11 [(0, .inr (.inr (.inl 96))), (1, .inl a0), (2, .inl a1)] [.inl x15] h _
        refine N_if_eq (a := x15.toInt) 26 rfl rfl rfl (fun c17 => ?_) (fun c17 => ?_)
        · refine R_bipush (-2) rfl rfl ?_
          exact R_iret rfl rfl rfl ⟨hI, fr, trivial, _, rfl, trivial⟩
        · exfalso; omega
      · show RUN d_X9_drawn 11 [(0, .inr (.inr (.inl 96))), (1, .inl a0), (2, .inl a1)] [.inl x15] h _
        refine N_if_eq (a := x15.toInt) 26 rfl rfl rfl (fun c18 => ?_) (fun c18 => ?_)
        · refine R_bipush (-2) rfl rfl ?_
          exact R_iret rfl rfl rfl ⟨hI, fr, trivial, _, rfl, trivial⟩
        · exfalso; omega
      · show RUN d_X9_drawn 11 [(0, .inr (.inr (.inl 96))), (1, .inl a0), (2, .inl a1)] [.inl x15] h _
        refine N_if_eq (a := x15.toInt) 26 rfl rfl rfl (fun c19 => ?_) (fun c19 => ?_)
        · exfalso; omega
        · refine R_iload_n (k := 2) rfl rfl rfl ?_
          refine N_i2l rfl (fun w20 q21 => ?_)
          refine R_lconst 0 rfl rfl ?_
          refine R_ldc2 (x := 2) rfl kt_9_123 ?_
          have k22 : (0 : Int64).toInt = 0 := by decide
          have k23 : (2 : Int64).toInt = 2 := by decide
          refine R_callS (As := [.inr (.inl w20), .inr (.inl 0), .inr (.inl 2)]) (rest := []) rfl mt_9_i125 (by decide) pp_X9_in (by decide) rfl rfl (Nat.le_of_ble_eq_true rfl) (Nat.le_of_ble_eq_true rfl) ((k_X9_in h hI w20 (0 : Int64) (2 : Int64)).mono (fun r24 h25 p26 => ?_))
          obtain ⟨rfl, x27, rfl, q28 | q28 | q28⟩ := p26
          · show RUN d_X9_drawn 23 [(0, .inr (.inr (.inl 96))), (1, .inl a0), (2, .inl a1)] [.inl x27] h _
            refine N_if_ne (a := x27.toInt) 29 rfl rfl rfl (fun c29 => ?_) (fun c29 => ?_)
            · exfalso; omega
            · refine R_bipush (-2) rfl rfl ?_
              exact R_iret rfl rfl rfl ⟨hI, fr, trivial, _, rfl, trivial⟩
          · show RUN d_X9_drawn 23 [(0, .inr (.inr (.inl 96))), (1, .inl a0), (2, .inl a1)] [.inl x27] h _
            refine N_if_ne (a := x27.toInt) 29 rfl rfl rfl (fun c30 => ?_) (fun c30 => ?_)
            · exfalso; omega
            · refine R_bipush (-2) rfl rfl ?_
              exact R_iret rfl rfl rfl ⟨hI, fr, trivial, _, rfl, trivial⟩
          · show RUN d_X9_drawn 23 [(0, .inr (.inr (.inl 96))), (1, .inl a0), (2, .inl a1)] [.inl x27] h _
            refine N_if_ne (a := x27.toInt) 29 rfl rfl rfl (fun c31 => ?_) (fun c31 => ?_)
            · refine R_aload_n (k := 0) rfl rfl rfl ?_
              refine R_iload_n (k := 1) rfl rfl rfl ?_
              refine N_i2l rfl (fun w32 q33 => ?_)
              refine R_callV (v := .inr (.inr (.inl 96))) (As := [.inr (.inl w32)]) (rest := []) rfl mt_9_i521 pp_X9_goDrawn (by decide) rfl rfl rfl (Nat.le_of_ble_eq_true rfl) (Nat.le_of_ble_eq_true rfl) ((k_X9_goDrawn h hI w32).mono (fun r34 h35 p36 => ?_))
              obtain ⟨hJ, fj, -, x37, rfl, q38⟩ := p36
              have f39 := fj
              have fr := fr.trans fj (by decide)
              have hI := hJ
              have s40 : (h35.1 97 10).toInt = (h.1 97 10).toInt := by rw [(f39 97 (by decide)).1]
              have s41 : (h35.1 97 0).toInt = (h.1 97 0).toInt := by rw [(f39 97 (by decide)).1]
              show RUN d_X9_drawn 35 [(0, .inr (.inr (.inl 96))), (1, .inl a0), (2, .inl a1)] [.inl x37] h35 _
              refine R_istore_n (k := 3) rfl [(3, .inl x37), (0, .inr (.inr (.inl 96))), (1, .inl a0), (2, .inl a1)] rfl rfl (by decide) ?_
              refine R_iload_n (k := 2) rfl rfl rfl ?_
              refine N_if_ne (a := a1.toInt) 44 rfl rfl rfl (fun c42 => ?_) (fun c42 => ?_)
              · refine R_iload_n (k := 2) rfl rfl rfl ?_
                refine R_iconst 1 rfl rfl ?_
                refine N_icmp_ne (a := a1.toInt) (b := 1) 61 rfl rfl rfl (by decide) (fun c43 => ?_) (fun c43 => ?_)
                · refine R_aload_n (k := 0) rfl rfl rfl ?_
                  refine R_aload_n (k := 0) rfl rfl rfl ?_
                  refine R_getf_r (j := 1) rfl ft_9_9 sh_96 rfl ?_
                  refine R_bipush 7 rfl rfl ?_
                  refine R_iald rfl sh_97 (by decide) ?_
                  show RUN d_X9_drawn 69 [(3, .inl x37), (0, .inr (.inr (.inl 96))), (1, .inl a0), (2, .inl a1)] [.inl (h35.1 97 7), .inr (.inr (.inl 96))] h35 _
                  refine R_callV (v := .inr (.inr (.inl 96))) (As := [.inl (h35.1 97 7)]) (rest := []) rfl mt_9_i345 pp_X9_goFire (by decide) rfl rfl rfl (Nat.le_of_ble_eq_true rfl) (Nat.le_of_ble_eq_true rfl) ((k_X9_goFire h35 hI (h35.1 97 7)).mono (fun r44 h45 p46 => ?_))
                  obtain ⟨hJ, fj, -, x47, rfl, q48⟩ := p46
                  have f49 := fj
                  have fr := fr.trans fj (by decide)
                  have hI := hJ
                  have s50 : (h45.1 97 10).toInt = (h35.1 97 10).toInt := by rw [(f49 97 (by decide)).1]
                  have s51 : (h45.1 97 0).toInt = (h35.1 97 0).toInt := by rw [(f49 97 (by decide)).1]
                  have s52 : (h45.1 97 7).toInt = (h35.1 97 7).toInt := by rw [(f49 97 (by decide)).1]
                  show RUN d_X9_drawn 72 [(3, .inl x37), (0, .inr (.inr (.inl 96))), (1, .inl a0), (2, .inl a1)] [.inl x47] h45 _
                  exact R_iret rfl rfl rfl ⟨hI, fr, trivial, _, rfl, trivial⟩
                · refine R_aload_n (k := 0) rfl rfl rfl ?_
                  refine R_getf_r (j := 28) rfl ft_9_64 sh_96 rfl ?_
                  refine R_aload_n (k := 0) rfl rfl rfl ?_
                  refine R_callV (v := .inr (.inr (.inl 96))) (As := []) (rest := [.inr (.inr (.inl 113))]) rfl mt_9_i129 pp_X9_last (by decide) rfl rfl rfl (Nat.le_of_ble_eq_true rfl) (Nat.le_of_ble_eq_true rfl) ((k_X9_last h35 hI).mono (fun r53 h54 p55 => ?_))
                  obtain ⟨rfl, x56, rfl, q57⟩ := p55
                  show RUN d_X9_drawn 57 [(3, .inl x37), (0, .inr (.inr (.inl 96))), (1, .inl a0), (2, .inl a1)] [.inl x56, .inr (.inr (.inl 113))] h35 _
                  refine R_iald rfl sh_113 ⟨by omega, by omega⟩ ?_
                  refine N_any (fun x58 => ?_)
                  refine R_goto 72 rfl rfl ?_
                  exact R_iret rfl rfl rfl ⟨hI, fr, trivial, _, rfl, trivial⟩
              · refine R_iload_n (k := 3) rfl rfl rfl ?_
                refine R_goto 72 rfl rfl ?_
                exact R_iret rfl rfl rfl ⟨hI, fr, trivial, _, rfl, trivial⟩
            · exfalso; omega
abbrev q_X8_luck (h : PH) (a0 : Int32) (a1 : Int32) : Option PV → PH → Prop := fun r h' => INV h' ∧ FR [70, 71, 72, 73, 74] h h' ∧ (True) ∧ ∃ z : Int32, r = some (.inl z) ∧ (((-19) ≤ z.toInt ∧ z.toInt ≤ 20))
set_option maxHeartbeats 4000000 in
set_option maxRecDepth 100000 in
theorem k_X8_luck (h : PH) (hI : INV h) (a0 : Int32) (a1 : Int32) : CALL d_X8_luck [.inr (.inr (.inl 0)), .inl a0, .inl a1] h (q_X8_luck h a0 a1) := by
  show RUN d_X8_luck 0 [(0, .inr (.inr (.inl 0))), (1, .inl a0), (2, .inl a1)] [] h _
  have b1 := i_rng a0
  have b2 := i_rng a1
  have fr : FR [70, 71, 72, 73, 74] h h := FR.rf _ _
  refine R_aload_n (k := 0) rfl rfl rfl ?_
  refine R_getf_r (j := 3) rfl ft_8_28 sh_0 rfl ?_
  have b3 : (0 : Int) ≤ (h.1 17 0).toInt ∧ (h.1 17 0).toInt ≤ 60 := hI.1 17 0
  have e4 : 0 < (h.1 17 10).toInt → 1 ≤ (h.1 17 0).toInt := hI.2.1
  refine R_callV (v := .inr (.inr (.inl 16))) (As := []) (rest := []) rfl mt_8_i146 pp_X1_stands (by decide) rfl rfl rfl (Nat.le_of_ble_eq_true rfl) (Nat.le_of_ble_eq_true rfl) ((k_X1_stands h hI).mono (fun r5 h6 p7 => ?_))
  obtain ⟨rfl, x8, rfl, q9 | q9⟩ := p7
  · show RUN d_X8_luck 7 [(0, .inr (.inr (.inl 0))), (1, .inl a0), (2, .inl a1)] [.inl x8] h _
    refine N_if_eq (a := x8.toInt) 28 rfl rfl rfl (fun c10 => ?_) (fun c10 => ?_)
    · refine R_bipush (-2) rfl rfl ?_
      exact R_iret rfl rfl rfl ⟨hI, fr, trivial, _, rfl, by rw [show ((-2) : Int32).toInt = (-2) from rfl] <;> omega⟩
    · exfalso; omega
  · show RUN d_X8_luck 7 [(0, .inr (.inr (.inl 0))), (1, .inl a0), (2, .inl a1)] [.inl x8] h _
    refine N_if_eq (a := x8.toInt) 28 rfl rfl rfl (fun c11 => ?_) (fun c11 => ?_)
    · exfalso; omega
    · refine R_iload_n (k := 1) rfl rfl rfl ?_
      refine R_callS (As := [.inl a0]) (rest := []) rfl mt_8_i366 (by decide) pp_X8_isSeed (by decide) rfl rfl (Nat.le_of_ble_eq_true rfl) (Nat.le_of_ble_eq_true rfl) ((k_X8_isSeed h hI a0).mono (fun r12 h13 p14 => ?_))
      obtain ⟨rfl, x15, rfl, q16 | q16 | q16⟩ := p14
      · show RUN d_X8_luck 14 [(0, .inr (.inr (.inl 0))), (1, .inl a0), (2, .inl a1)] [.inl x15] h _
        refine N_if_eq (a := x15.toInt) 28 rfl rfl rfl (fun c17 => ?_) (fun c17 => ?_)
        · refine R_bipush (-2) rfl rfl ?_
          exact R_iret rfl rfl rfl ⟨hI, fr, trivial, _, rfl, by rw [show ((-2) : Int32).toInt = (-2) from rfl] <;> omega⟩
        · exfalso; omega
      · show RUN d_X8_luck 14 [(0, .inr (.inr (.inl 0))), (1, .inl a0), (2, .inl a1)] [.inl x15] h _
        refine N_if_eq (a := x15.toInt) 28 rfl rfl rfl (fun c18 => ?_) (fun c18 => ?_)
        · refine R_bipush (-2) rfl rfl ?_
          exact R_iret rfl rfl rfl ⟨hI, fr, trivial, _, rfl, by rw [show ((-2) : Int32).toInt = (-2) from rfl] <;> omega⟩
        · exfalso; omega
      · show RUN d_X8_luck 14 [(0, .inr (.inr (.inl 0))), (1, .inl a0), (2, .inl a1)] [.inl x15] h _
        refine N_if_eq (a := x15.toInt) 28 rfl rfl rfl (fun c19 => ?_) (fun c19 => ?_)
        · exfalso; omega
        · refine R_iload_n (k := 2) rfl rfl rfl ?_
          refine R_iconst 1 rfl rfl ?_
          refine N_icmp_lt (a := a1.toInt) (b := 1) 28 rfl rfl rfl (by decide) (fun c20 => ?_) (fun c20 => ?_)
          · refine R_bipush (-2) rfl rfl ?_
            exact R_iret rfl rfl rfl ⟨hI, fr, trivial, _, rfl, by rw [show ((-2) : Int32).toInt = (-2) from rfl] <;> omega⟩
          · refine R_iload_n (k := 2) rfl rfl rfl ?_
            refine R_bipush 20 rfl rfl ?_
            refine N_icmp_le (a := a1.toInt) (b := 20) 31 rfl rfl rfl (by decide) (fun c21 => ?_) (fun c21 => ?_)
            · refine R_aload_n (k := 0) rfl rfl rfl ?_
              refine R_callV (v := .inr (.inr (.inl 0))) (As := []) (rest := []) rfl mt_8_i237 pp_X8_lineAsNow (by decide) rfl rfl rfl (Nat.le_of_ble_eq_true rfl) (Nat.le_of_ble_eq_true rfl) ((k_X8_lineAsNow h hI).mono (fun r22 h23 p24 => ?_))
              obtain ⟨hJ, fj, -, rfl⟩ := p24
              have f25 := fj
              have fr := fr.trans fj (by decide)
              have hI := hJ
              have s26 : (h23.1 17 10).toInt = (h.1 17 10).toInt := by rw [(f25 17 (by decide)).1]
              have s27 : (h23.1 17 0).toInt = (h.1 17 0).toInt := by rw [(f25 17 (by decide)).1]
              show RUN d_X8_luck 35 [(0, .inr (.inr (.inl 0))), (1, .inl a0), (2, .inl a1)] [] h23 _
              refine R_iconst 0 rfl rfl ?_
              refine R_istore_n (k := 3) rfl [(3, .inl 0), (0, .inr (.inr (.inl 0))), (1, .inl a0), (2, .inl a1)] rfl rfl (by decide) ?_
              refine R_iconst 0 rfl rfl ?_
              refine R_istore (k := 4) [(4, .inl 0), (3, .inl 0), (0, .inr (.inr (.inl 0))), (1, .inl a0), (2, .inl a1)] rfl rfl (by decide) ?_
              have lp29 : ∀ (n28 : Nat) (h30 : PH) (x32 : Int32) (x33 : Int32), INV h30 → FR [70, 71, 72, 73, 74] h h30 → FR [70, 74] h23 h30 → (-19) ≤ x32.toInt ∧ x32.toInt ≤ 20 → 0 ≤ x33.toInt ∧ x33.toInt ≤ 20 → x32.toInt ≤ x33.toInt + 0 → a1.toInt ≤ x32.toInt + 20 → (h23.1 17 0).toInt ≤ x32.toInt + 60 → (20 - x33.toInt).toNat < n28 → RUN d_X8_luck 40 [(4, .inl x33), (3, .inl x32), (0, .inr (.inr (.inl 0))), (1, .inl a0), (2, .inl a1)] [] h30 (q_X8_luck h a0 a1) := by
                intro n28
                induction n28 with
                | zero => intro h30 x32 x33 m35 m36 m37 m38 m39 m40 m41 m42 hz; exact absurd hz (Nat.not_lt_zero _)
                | succ n28 ih34 =>
                  intro h30 x32 x33 hI fr fl31 m38 m39 m40 m41 m42 hz
                  have s43 : (h30.1 17 10).toInt = (h23.1 17 10).toInt := by rw [(fl31 17 (by decide)).1]
                  have s44 : (h30.1 17 0).toInt = (h23.1 17 0).toInt := by rw [(fl31 17 (by decide)).1]
                  refine R_iload (k := 4) rfl rfl ?_
                  refine R_iload_n (k := 2) rfl rfl rfl ?_
                  refine N_icmp_ge (a := x33.toInt) (b := a1.toInt) 100 rfl rfl rfl rfl (fun c45 => ?_) (fun c45 => ?_)
                  · refine R_iload_n (k := 3) rfl rfl rfl ?_
                    exact R_iret rfl rfl rfl ⟨hI, fr, trivial, _, rfl, by omega⟩
                  · refine R_aload_n (k := 0) rfl rfl rfl ?_
                    refine R_getf_r (j := 7) rfl ft_8_49 sh_0 rfl ?_
                    refine R_aload_n (k := 0) rfl rfl rfl ?_
                    refine R_getf_r (j := 3) rfl ft_8_28 sh_0 rfl ?_
                    refine R_getf_r (j := 0) rfl ft_8_109 sh_16 rfl ?_
                    refine R_iconst 0 rfl rfl ?_
                    refine R_iald rfl sh_17 (by decide) ?_
                    show RUN d_X8_luck 59 [(4, .inl x33), (3, .inl x32), (0, .inr (.inr (.inl 0))), (1, .inl a0), (2, .inl a1)] [.inl (h30.1 17 0), .inr (.inr (.inl 70))] h30 _
                    refine R_aload_n (k := 0) rfl rfl rfl ?_
                    refine R_iload_n (k := 1) rfl rfl rfl ?_
                    refine N_i2l rfl (fun w46 q47 => ?_)
                    refine R_iload (k := 4) rfl rfl ?_
                    refine N_i2l rfl (fun w48 q49 => ?_)
                    refine N_ladd (a := w46.toInt) (b := w48.toInt) rfl rfl rfl (by omega) (fun w50 q51 => ?_)
                    refine R_callV (v := .inr (.inr (.inl 0))) (As := [.inr (.inl w50)]) (rest := [.inl (h30.1 17 0), .inr (.inr (.inl 70))]) rfl mt_8_i369 pp_X8_slipsFrom (by decide) rfl rfl rfl (Nat.le_of_ble_eq_true rfl) (Nat.le_of_ble_eq_true rfl) ((k_X8_slipsFrom h30 hI w50).mono (fun r52 h53 p54 => ?_))
                    obtain ⟨rfl, w55, rfl⟩ := p54
                    show RUN d_X8_luck 69 [(4, .inl x33), (3, .inl x32), (0, .inr (.inr (.inl 0))), (1, .inl a0), (2, .inl a1)] [.inr (.inl w55), .inl (h30.1 17 0), .inr (.inr (.inl 70))] h30 _
                    refine R_callV (v := .inr (.inr (.inl 70))) (As := [.inl (h30.1 17 0), .inr (.inl w55)]) (rest := []) rfl mt_8_i347 pp_X2_play (by decide) rfl rfl rfl (Nat.le_of_ble_eq_true rfl) (Nat.le_of_ble_eq_true rfl) ((k_X2_play h30 hI (h30.1 17 0) w55 (by omega)).mono (fun r56 h57 p58 => ?_))
                    obtain ⟨hJ, fj, ⟨kp59, -⟩, w60, rfl⟩ := p58
                    have f61 := fj
                    have fr := fr.trans fj (by decide)
                    have hI := hJ
                    have fl31 : FR [70, 74] h23 h57 := fl31.trans fj (by decide)
                    have s62 : (h57.1 17 10).toInt = (h30.1 17 10).toInt := by rw [(f61 17 (by decide)).1]
                    have s63 : (h57.1 17 0).toInt = (h30.1 17 0).toInt := by rw [(f61 17 (by decide)).1]
                    show RUN d_X8_luck 72 [(4, .inl x33), (3, .inl x32), (0, .inr (.inr (.inl 0))), (1, .inl a0), (2, .inl a1)] [.inr (.inl w60)] h57 _
                    refine R_lstore (k := 5) [(5, .inr (.inl w60)), (4, .inl x33), (3, .inl x32), (0, .inr (.inr (.inl 0))), (1, .inl a0), (2, .inl a1)] rfl rfl (by decide) ?_
                    refine R_aload_n (k := 0) rfl rfl rfl ?_
                    refine R_lload (k := 5) rfl rfl ?_
                    refine R_aload_n (k := 0) rfl rfl rfl ?_
                    refine R_getf_r (j := 7) rfl ft_8_49 sh_0 rfl ?_
                    refine R_callV (v := .inr (.inr (.inl 70))) (As := []) (rest := [.inr (.inl w60), .inr (.inr (.inl 0))]) rfl mt_8_i247 pp_X2_poured (by decide) rfl rfl rfl (Nat.le_of_ble_eq_true rfl) (Nat.le_of_ble_eq_true rfl) ((k_X2_poured h57 hI).mono (fun r64 h65 p66 => ?_))
                    obtain ⟨rfl, x67, rfl, q68⟩ := p66
                    show RUN d_X8_luck 84 [(5, .inr (.inl w60)), (4, .inl x33), (3, .inl x32), (0, .inr (.inr (.inl 0))), (1, .inl a0), (2, .inl a1)] [.inl x67, .inr (.inl w60), .inr (.inr (.inl 0))] h57 _
                    refine R_callV (v := .inr (.inr (.inl 0))) (As := [.inr (.inl w60), .inl x67]) (rest := []) rfl mt_8_i219 pp_X8_outBy (by decide) rfl rfl rfl (Nat.le_of_ble_eq_true rfl) (Nat.le_of_ble_eq_true rfl) ((k_X8_outBy h57 hI w60 x67).mono (fun r69 h70 p71 => ?_))
                    obtain ⟨rfl, x72, rfl, q73⟩ := p71
                    show RUN d_X8_luck 87 [(5, .inr (.inl w60)), (4, .inl x33), (3, .inl x32), (0, .inr (.inr (.inl 0))), (1, .inl a0), (2, .inl a1)] [.inl x72] h57 _
                    refine R_iconst (-1) rfl rfl ?_
                    refine N_icmp_eq (a := x72.toInt) (b := (-1)) 94 rfl rfl rfl (by decide) (fun c74 => ?_) (fun c74 => ?_)
                    · refine N_iinc (a := x33.toInt) (c := 1) (fun w => [(4, .inl w), (5, .inr (.inl w60)), (3, .inl x32), (0, .inr (.inr (.inl 0))), (1, .inl a0), (2, .inl a1)]) rfl rfl (fun _ => rfl) (by decide) rfl (by decide) (by omega) (fun x75 q76 => ?_)
                      refine R_goto 40 rfl rfl ?_
                      exact RUN_weak (psub_cons rfl (psub_cons rfl (psub_cons rfl (psub_cons rfl (psub_cons rfl (psub_nil _)))))) (ih34 h57 x32 x75 hI fr fl31 (by omega) (by omega) (by omega) (by omega) (by omega) (by omega))
                    · refine N_iinc (a := x32.toInt) (c := 1) (fun w => [(3, .inl w), (5, .inr (.inl w60)), (4, .inl x33), (0, .inr (.inr (.inl 0))), (1, .inl a0), (2, .inl a1)]) rfl rfl (fun _ => rfl) (by decide) rfl (by decide) (by omega) (fun x77 q78 => ?_)
                      refine N_iinc (a := x33.toInt) (c := 1) (fun w => [(4, .inl w), (3, .inl x77), (5, .inr (.inl w60)), (0, .inr (.inr (.inl 0))), (1, .inl a0), (2, .inl a1)]) rfl rfl (fun _ => rfl) (by decide) rfl (by decide) (by omega) (fun x79 q80 => ?_)
                      refine R_goto 40 rfl rfl ?_
                      exact RUN_weak (psub_cons rfl (psub_cons rfl (psub_cons rfl (psub_cons rfl (psub_cons rfl (psub_nil _)))))) (ih34 h57 x77 x79 hI fr fl31 (by omega) (by omega) (by omega) (by omega) (by omega) (by omega))
              have k81 : (0 : Int32).toInt = 0 := by decide
              have k82 : (0 : Int32).toInt = 0 := by decide
              exact lp29 _ h23 (0 : Int32) (0 : Int32) hI fr (FR.rf _ _) (by decide) (by decide) (by omega) (by omega) (by omega) (Nat.lt_succ_self _)
            · refine R_bipush (-2) rfl rfl ?_
              exact R_iret rfl rfl rfl ⟨hI, fr, trivial, _, rfl, by rw [show ((-2) : Int32).toInt = (-2) from rfl] <;> omega⟩
abbrev q_X9_luck (h : PH) (a0 : Int32) (a1 : Int32) : Option PV → PH → Prop := fun r h' => INV h' ∧ FR [96, 103, 104, 105, 106, 107, 108, 109, 110, 111, 112, 113, 114, 115, 116, 117, 118, 119, 120] h h' ∧ (True) ∧ ∃ z : Int32, r = some (.inl z) ∧ (((-19) ≤ z.toInt ∧ z.toInt ≤ 20))
set_option maxHeartbeats 4000000 in
set_option maxRecDepth 100000 in
theorem k_X9_luck (h : PH) (hI : INV h) (a0 : Int32) (a1 : Int32) : CALL d_X9_luck [.inr (.inr (.inl 96)), .inl a0, .inl a1] h (q_X9_luck h a0 a1) := by
  show RUN d_X9_luck 0 [(0, .inr (.inr (.inl 96))), (1, .inl a0), (2, .inl a1)] [] h _
  have b1 := i_rng a0
  have b2 := i_rng a1
  have fr : FR [96, 103, 104, 105, 106, 107, 108, 109, 110, 111, 112, 113, 114, 115, 116, 117, 118, 119, 120] h h := FR.rf _ _
  refine R_aload_n (k := 0) rfl rfl rfl ?_
  have b3 : (0 : Int) ≤ (h.1 97 0).toInt ∧ (h.1 97 0).toInt ≤ 60 := hI.1 97 0
  have e4 : 0 < (h.1 97 10).toInt → 1 ≤ (h.1 97 0).toInt := hI.2.2.2.2.2.1.2.1
  refine R_callV (v := .inr (.inr (.inl 96))) (As := []) (rest := []) rfl mt_9_i301 pp_X9_isBrigade (by decide) rfl rfl rfl (Nat.le_of_ble_eq_true rfl) (Nat.le_of_ble_eq_true rfl) ((k_X9_isBrigade h hI).mono (fun r5 h6 p7 => ?_))
  obtain ⟨rfl, x8, rfl, q9 | q9⟩ := p7
  · show RUN d_X9_luck 4 [(0, .inr (.inr (.inl 96))), (1, .inl a0), (2, .inl a1)] [.inl x8] h _
    refine N_if_eq (a := x8.toInt) 26 rfl rfl rfl (fun c10 => ?_) (fun c10 => ?_)
    · refine R_bipush (-2) rfl rfl ?_
      exact R_iret rfl rfl rfl ⟨hI, fr, trivial, _, rfl, by rw [show ((-2) : Int32).toInt = (-2) from rfl] <;> omega⟩
    · exfalso; omega
  · show RUN d_X9_luck 4 [(0, .inr (.inr (.inl 96))), (1, .inl a0), (2, .inl a1)] [.inl x8] h _
    refine N_if_eq (a := x8.toInt) 26 rfl rfl rfl (fun c11 => ?_) (fun c11 => ?_)
    · exfalso; omega
    · refine R_iload_n (k := 1) rfl rfl rfl ?_
      refine R_callS (As := [.inl a0]) (rest := []) rfl mt_9_i518 (by decide) pp_X9_isSeed (by decide) rfl rfl (Nat.le_of_ble_eq_true rfl) (Nat.le_of_ble_eq_true rfl) ((k_X9_isSeed h hI a0).mono (fun r12 h13 p14 => ?_))
      obtain ⟨rfl, x15, rfl, q16 | q16 | q16⟩ := p14
      · show RUN d_X9_luck 11 [(0, .inr (.inr (.inl 96))), (1, .inl a0), (2, .inl a1)] [.inl x15] h _
        refine N_if_eq (a := x15.toInt) 26 rfl rfl rfl (fun c17 => ?_) (fun c17 => ?_)
        · refine R_bipush (-2) rfl rfl ?_
          exact R_iret rfl rfl rfl ⟨hI, fr, trivial, _, rfl, by rw [show ((-2) : Int32).toInt = (-2) from rfl] <;> omega⟩
        · exfalso; omega
      · show RUN d_X9_luck 11 [(0, .inr (.inr (.inl 96))), (1, .inl a0), (2, .inl a1)] [.inl x15] h _
        refine N_if_eq (a := x15.toInt) 26 rfl rfl rfl (fun c18 => ?_) (fun c18 => ?_)
        · refine R_bipush (-2) rfl rfl ?_
          exact R_iret rfl rfl rfl ⟨hI, fr, trivial, _, rfl, by rw [show ((-2) : Int32).toInt = (-2) from rfl] <;> omega⟩
        · exfalso; omega
      · show RUN d_X9_luck 11 [(0, .inr (.inr (.inl 96))), (1, .inl a0), (2, .inl a1)] [.inl x15] h _
        refine N_if_eq (a := x15.toInt) 26 rfl rfl rfl (fun c19 => ?_) (fun c19 => ?_)
        · exfalso; omega
        · refine R_iload_n (k := 2) rfl rfl rfl ?_
          refine N_i2l rfl (fun w20 q21 => ?_)
          refine R_lconst 1 rfl rfl ?_
          refine R_ldc2 (x := 20) rfl kt_9_525 ?_
          have k22 : (1 : Int64).toInt = 1 := by decide
          have k23 : (20 : Int64).toInt = 20 := by decide
          refine R_callS (As := [.inr (.inl w20), .inr (.inl 1), .inr (.inl 20)]) (rest := []) rfl mt_9_i125 (by decide) pp_X9_in (by decide) rfl rfl (Nat.le_of_ble_eq_true rfl) (Nat.le_of_ble_eq_true rfl) ((k_X9_in h hI w20 (1 : Int64) (20 : Int64)).mono (fun r24 h25 p26 => ?_))
          obtain ⟨rfl, x27, rfl, q28 | q28 | q28⟩ := p26
          · show RUN d_X9_luck 23 [(0, .inr (.inr (.inl 96))), (1, .inl a0), (2, .inl a1)] [.inl x27] h _
            refine N_if_ne (a := x27.toInt) 29 rfl rfl rfl (fun c29 => ?_) (fun c29 => ?_)
            · exfalso; omega
            · refine R_bipush (-2) rfl rfl ?_
              exact R_iret rfl rfl rfl ⟨hI, fr, trivial, _, rfl, by rw [show ((-2) : Int32).toInt = (-2) from rfl] <;> omega⟩
          · show RUN d_X9_luck 23 [(0, .inr (.inr (.inl 96))), (1, .inl a0), (2, .inl a1)] [.inl x27] h _
            refine N_if_ne (a := x27.toInt) 29 rfl rfl rfl (fun c30 => ?_) (fun c30 => ?_)
            · exfalso; omega
            · refine R_bipush (-2) rfl rfl ?_
              exact R_iret rfl rfl rfl ⟨hI, fr, trivial, _, rfl, by rw [show ((-2) : Int32).toInt = (-2) from rfl] <;> omega⟩
          · show RUN d_X9_luck 23 [(0, .inr (.inr (.inl 96))), (1, .inl a0), (2, .inl a1)] [.inl x27] h _
            refine N_if_ne (a := x27.toInt) 29 rfl rfl rfl (fun c31 => ?_) (fun c31 => ?_)
            · refine R_iconst 0 rfl rfl ?_
              refine R_istore_n (k := 3) rfl [(3, .inl 0), (0, .inr (.inr (.inl 96))), (1, .inl a0), (2, .inl a1)] rfl rfl (by decide) ?_
              refine R_iconst 0 rfl rfl ?_
              refine R_istore (k := 4) [(4, .inl 0), (3, .inl 0), (0, .inr (.inr (.inl 96))), (1, .inl a0), (2, .inl a1)] rfl rfl (by decide) ?_
              have lp33 : ∀ (n32 : Nat) (h34 : PH) (x36 : Int32) (x37 : Int32), INV h34 → FR [96, 103, 104, 105, 106, 107, 108, 109, 110, 111, 112, 113, 114, 115, 116, 117, 118, 119, 120] h h34 → FR [96, 103, 104, 105, 106, 107, 108, 109, 110, 111, 112, 113, 114, 115, 116, 117, 118, 119, 120] h h34 → (-19) ≤ x36.toInt ∧ x36.toInt ≤ 20 → 0 ≤ x37.toInt ∧ x37.toInt ≤ 20 → x36.toInt ≤ x37.toInt + 0 → a1.toInt ≤ x36.toInt + 20 → (h.1 97 0).toInt ≤ x36.toInt + 60 → (20 - x37.toInt).toNat < n32 → RUN d_X9_luck 34 [(4, .inl x37), (3, .inl x36), (0, .inr (.inr (.inl 96))), (1, .inl a0), (2, .inl a1)] [] h34 (q_X9_luck h a0 a1) := by
                intro n32
                induction n32 with
                | zero => intro h34 x36 x37 m39 m40 m41 m42 m43 m44 m45 m46 hz; exact absurd hz (Nat.not_lt_zero _)
                | succ n32 ih38 =>
                  intro h34 x36 x37 hI fr fl35 m42 m43 m44 m45 m46 hz
                  have s47 : (h34.1 97 10).toInt = (h.1 97 10).toInt := by rw [(fl35 97 (by decide)).1]
                  have s48 : (h34.1 97 0).toInt = (h.1 97 0).toInt := by rw [(fl35 97 (by decide)).1]
                  refine R_iload (k := 4) rfl rfl ?_
                  refine R_iload_n (k := 2) rfl rfl rfl ?_
                  refine N_icmp_ge (a := x37.toInt) (b := a1.toInt) 80 rfl rfl rfl rfl (fun c49 => ?_) (fun c49 => ?_)
                  · refine R_iload_n (k := 3) rfl rfl rfl ?_
                    exact R_iret rfl rfl rfl ⟨hI, fr, trivial, _, rfl, by omega⟩
                  · refine R_aload_n (k := 0) rfl rfl rfl ?_
                    refine R_iload_n (k := 1) rfl rfl rfl ?_
                    refine N_i2l rfl (fun w50 q51 => ?_)
                    refine R_iload (k := 4) rfl rfl ?_
                    refine N_i2l rfl (fun w52 q53 => ?_)
                    refine N_ladd (a := w50.toInt) (b := w52.toInt) rfl rfl rfl (by omega) (fun w54 q55 => ?_)
                    refine R_callV (v := .inr (.inr (.inl 96))) (As := [.inr (.inl w54)]) (rest := []) rfl mt_9_i521 pp_X9_goDrawn (by decide) rfl rfl rfl (Nat.le_of_ble_eq_true rfl) (Nat.le_of_ble_eq_true rfl) ((k_X9_goDrawn h34 hI w54).mono (fun r56 h57 p58 => ?_))
                    obtain ⟨hJ, fj, -, x59, rfl, q60⟩ := p58
                    have f61 := fj
                    have fr := fr.trans fj (by decide)
                    have hI := hJ
                    have fl35 : FR [96, 103, 104, 105, 106, 107, 108, 109, 110, 111, 112, 113, 114, 115, 116, 117, 118, 119, 120] h h57 := fl35.trans fj (by decide)
                    have s62 : (h57.1 97 10).toInt = (h34.1 97 10).toInt := by rw [(f61 97 (by decide)).1]
                    have s63 : (h57.1 97 0).toInt = (h34.1 97 0).toInt := by rw [(f61 97 (by decide)).1]
                    show RUN d_X9_luck 50 [(4, .inl x37), (3, .inl x36), (0, .inr (.inr (.inl 96))), (1, .inl a0), (2, .inl a1)] [.inl x59] h57 _
                    refine R_pop_i rfl ?_
                    refine R_iload_n (k := 3) rfl rfl rfl ?_
                    refine R_aload_n (k := 0) rfl rfl rfl ?_
                    refine R_aload_n (k := 0) rfl rfl rfl ?_
                    refine R_getf_r (j := 1) rfl ft_9_9 sh_96 rfl ?_
                    refine R_bipush 7 rfl rfl ?_
                    refine R_iald rfl sh_97 (by decide) ?_
                    show RUN d_X9_luck 60 [(4, .inl x37), (3, .inl x36), (0, .inr (.inr (.inl 96))), (1, .inl a0), (2, .inl a1)] [.inl (h57.1 97 7), .inr (.inr (.inl 96)), .inl x36] h57 _
                    refine R_callV (v := .inr (.inr (.inl 96))) (As := [.inl (h57.1 97 7)]) (rest := [.inl x36]) rfl mt_9_i345 pp_X9_goFire (by decide) rfl rfl rfl (Nat.le_of_ble_eq_true rfl) (Nat.le_of_ble_eq_true rfl) ((k_X9_goFire h57 hI (h57.1 97 7)).mono (fun r64 h65 p66 => ?_))
                    obtain ⟨hJ, fj, -, x67, rfl, q68⟩ := p66
                    have f69 := fj
                    have fr := fr.trans fj (by decide)
                    have hI := hJ
                    have fl35 : FR [96, 103, 104, 105, 106, 107, 108, 109, 110, 111, 112, 113, 114, 115, 116, 117, 118, 119, 120] h h65 := fl35.trans fj (by decide)
                    have s70 : (h65.1 97 10).toInt = (h57.1 97 10).toInt := by rw [(f69 97 (by decide)).1]
                    have s71 : (h65.1 97 0).toInt = (h57.1 97 0).toInt := by rw [(f69 97 (by decide)).1]
                    have s72 : (h65.1 97 7).toInt = (h57.1 97 7).toInt := by rw [(f69 97 (by decide)).1]
                    show RUN d_X9_luck 63 [(4, .inl x37), (3, .inl x36), (0, .inr (.inr (.inl 96))), (1, .inl a0), (2, .inl a1)] [.inl x67, .inl x36] h65 _
                    refine R_iconst (-1) rfl rfl ?_
                    refine N_icmp_ne (a := x67.toInt) (b := (-1)) 71 rfl rfl rfl (by decide) (fun c73 => ?_) (fun c73 => ?_)
                    · refine R_iconst 1 rfl rfl ?_
                      refine N_iadd (a := x36.toInt) (b := 1) rfl rfl (by decide) (by omega) (fun x74 q75 => ?_)
                      refine R_istore_n (k := 3) rfl [(3, .inl x74), (4, .inl x37), (0, .inr (.inr (.inl 96))), (1, .inl a0), (2, .inl a1)] rfl rfl (by decide) ?_
                      refine N_iinc (a := x37.toInt) (c := 1) (fun w => [(4, .inl w), (3, .inl x74), (0, .inr (.inr (.inl 96))), (1, .inl a0), (2, .inl a1)]) rfl rfl (fun _ => rfl) (by decide) rfl (by decide) (by omega) (fun x76 q77 => ?_)
                      refine R_goto 34 rfl rfl ?_
                      exact RUN_weak (psub_cons rfl (psub_cons rfl (psub_cons rfl (psub_cons rfl (psub_cons rfl (psub_nil _)))))) (ih38 h65 x74 x76 hI fr fl35 (by omega) (by omega) (by omega) (by omega) (by omega) (by omega))
                    · refine R_iconst 0 rfl rfl ?_
                      refine R_goto 72 rfl rfl ?_
                      refine N_iadd (a := x36.toInt) (b := 0) rfl rfl (by decide) (by omega) (fun x78 q79 => ?_)
                      refine R_istore_n (k := 3) rfl [(3, .inl x78), (4, .inl x37), (0, .inr (.inr (.inl 96))), (1, .inl a0), (2, .inl a1)] rfl rfl (by decide) ?_
                      refine N_iinc (a := x37.toInt) (c := 1) (fun w => [(4, .inl w), (3, .inl x78), (0, .inr (.inr (.inl 96))), (1, .inl a0), (2, .inl a1)]) rfl rfl (fun _ => rfl) (by decide) rfl (by decide) (by omega) (fun x80 q81 => ?_)
                      refine R_goto 34 rfl rfl ?_
                      exact RUN_weak (psub_cons rfl (psub_cons rfl (psub_cons rfl (psub_cons rfl (psub_cons rfl (psub_nil _)))))) (ih38 h65 x78 x80 hI fr fl35 (by omega) (by omega) (by omega) (by omega) (by omega) (by omega))
              have k82 : (0 : Int32).toInt = 0 := by decide
              have k83 : (0 : Int32).toInt = 0 := by decide
              exact lp33 _ h (0 : Int32) (0 : Int32) hI fr (FR.rf _ _) (by decide) (by decide) (by omega) (by omega) (by omega) (Nat.lt_succ_self _)
            · exfalso; omega
