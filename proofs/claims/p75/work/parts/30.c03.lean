abbrev q_X1_addPair (h : PH) (a0 : Int32) (a1 : Int32) (a2 : Int32) : Option PV → PH → Prop := fun r h' => INV h' ∧ FR [5, 10, 11, 12] h h' ∧ ((h'.1 5 5).toInt = (h.1 5 5).toInt ∧ (h'.1 5 0).toInt = (h.1 5 0).toInt ∧ (h'.1 5 10).toInt = (h.1 5 10).toInt ∧ True) ∧ r = none
set_option maxHeartbeats 4000000 in
set_option maxRecDepth 100000 in
theorem k_X1_addPair (h : PH) (hI : INV h) (a0 : Int32) (a1 : Int32) (a2 : Int32) (h0a : 0 ≤ a0.toInt ∧ a0.toInt ≤ 5) (h1a : 0 ≤ a1.toInt ∧ a1.toInt ≤ 5) (h2a : 0 ≤ a2.toInt ∧ a2.toInt ≤ 1) : CALL d_X1_addPair [.inr (.inr (.inl 4)), .inl a0, .inl a1, .inl a2] h (q_X1_addPair h a0 a1 a2) := by
  show RUN d_X1_addPair 0 [(0, .inr (.inr (.inl 4))), (1, .inl a0), (2, .inl a1), (3, .inl a2)] [] h _
  have fr : FR [5, 10, 11, 12] h h := FR.rf _ _
  have b1 : (0 : Int) ≤ (h.1 5 6).toInt ∧ (h.1 5 6).toInt ≤ 5 := hI.1 5 6
  have b2 : (0 : Int) ≤ (h.1 5 5).toInt ∧ (h.1 5 5).toInt ≤ 6 := hI.1 5 5
  refine R_aload_n (k := 0) rfl rfl rfl ?_
  refine R_getf_r (j := 0) rfl ft_1_9 sh_4 rfl ?_
  refine R_bipush 6 rfl rfl ?_
  refine R_iald rfl sh_5 (by decide) ?_
  show RUN d_X1_addPair 7 [(0, .inr (.inr (.inl 4))), (1, .inl a0), (2, .inl a1), (3, .inl a2)] [.inl (h.1 5 6)] h _
  refine R_istore (k := 4) [(4, .inl (h.1 5 6)), (0, .inr (.inr (.inl 4))), (1, .inl a0), (2, .inl a1), (3, .inl a2)] rfl rfl (by decide) ?_
  refine R_iload (k := 4) rfl rfl ?_
  refine R_iconst 5 rfl rfl ?_
  refine N_icmp_ge (a := (h.1 5 6).toInt) (b := 5) 50 rfl rfl rfl (by decide) (fun c3 => ?_) (fun c3 => ?_)
  · exact R_vret rfl rfl ⟨hI, fr, ⟨by omega, by omega, by omega, trivial⟩, rfl⟩
  · refine R_aload_n (k := 0) rfl rfl rfl ?_
    refine R_getf_r (j := 5) rfl ft_1_28 sh_4 rfl ?_
    refine R_iload (k := 4) rfl rfl ?_
    refine R_iload_n (k := 1) rfl rfl rfl ?_
    refine K_iast (a := (h.1 5 6).toInt) (lo := 0) (hi' := 5) rfl sh_10 rfl ⟨by omega, by omega⟩ hI (by decide) rfl (by omega) fr (by decide) (fun h4 g5 hI fr => ?_)
    have s6 : (h4.1 5 6).toInt = (h.1 5 6).toInt := by rw [g5, wI_ne _ _ _ (by decide)]
    have s7 : (h4.1 5 5).toInt = (h.1 5 5).toInt := by rw [g5, wI_ne _ _ _ (by decide)]
    have s8 : (h4.1 5 0).toInt = (h.1 5 0).toInt := by rw [g5, wI_ne _ _ _ (by decide)]
    have s9 : (h4.1 5 10).toInt = (h.1 5 10).toInt := by rw [g5, wI_ne _ _ _ (by decide)]
    refine R_aload_n (k := 0) rfl rfl rfl ?_
    refine R_getf_r (j := 6) rfl ft_1_31 sh_4 rfl ?_
    refine R_iload (k := 4) rfl rfl ?_
    refine R_iload_n (k := 2) rfl rfl rfl ?_
    refine K_iast (a := (h.1 5 6).toInt) (lo := 0) (hi' := 5) rfl sh_11 rfl ⟨by omega, by omega⟩ hI (by decide) rfl (by omega) fr (by decide) (fun h10 g11 hI fr => ?_)
    have s12 : (h10.1 5 6).toInt = (h4.1 5 6).toInt := by rw [g11, wI_ne _ _ _ (by decide)]
    have s13 : (h10.1 5 5).toInt = (h4.1 5 5).toInt := by rw [g11, wI_ne _ _ _ (by decide)]
    have s14 : (h10.1 5 0).toInt = (h4.1 5 0).toInt := by rw [g11, wI_ne _ _ _ (by decide)]
    have s15 : (h10.1 5 10).toInt = (h4.1 5 10).toInt := by rw [g11, wI_ne _ _ _ (by decide)]
    refine R_aload_n (k := 0) rfl rfl rfl ?_
    refine R_getf_r (j := 7) rfl ft_1_34 sh_4 rfl ?_
    refine R_iload (k := 4) rfl rfl ?_
    refine R_iload_n (k := 3) rfl rfl rfl ?_
    refine K_iast (a := (h.1 5 6).toInt) (lo := (-2147483648)) (hi' := 2147483647) rfl sh_12 rfl ⟨by omega, by omega⟩ hI (by decide) rfl (i_rng _) fr (by decide) (fun h16 g17 hI fr => ?_)
    have s18 : (h16.1 5 6).toInt = (h10.1 5 6).toInt := by rw [g17, wI_ne _ _ _ (by decide)]
    have s19 : (h16.1 5 5).toInt = (h10.1 5 5).toInt := by rw [g17, wI_ne _ _ _ (by decide)]
    have s20 : (h16.1 5 0).toInt = (h10.1 5 0).toInt := by rw [g17, wI_ne _ _ _ (by decide)]
    have s21 : (h16.1 5 10).toInt = (h10.1 5 10).toInt := by rw [g17, wI_ne _ _ _ (by decide)]
    refine R_aload_n (k := 0) rfl rfl rfl ?_
    refine R_getf_r (j := 0) rfl ft_1_9 sh_4 rfl ?_
    refine R_bipush 6 rfl rfl ?_
    refine R_iload (k := 4) rfl rfl ?_
    refine R_iconst 1 rfl rfl ?_
    refine N_iadd (a := (h.1 5 6).toInt) (b := 1) rfl rfl (by decide) (by omega) (fun x22 q23 => ?_)
    refine K_iast (a := 6) (lo := 0) (hi' := 5) rfl sh_5 (by decide) (by decide) hI (by decide) rfl (by omega) fr (by decide) (fun h24 g25 hI fr => ?_)
    have s26 : (h24.1 5 5).toInt = (h16.1 5 5).toInt := by rw [g25, show (6 : Int32).toNatClampNeg = 6 from rfl, wI_at (by decide)]
    have s27 : (h24.1 5 0).toInt = (h16.1 5 0).toInt := by rw [g25, show (6 : Int32).toNatClampNeg = 6 from rfl, wI_at (by decide)]
    have s28 : (h24.1 5 10).toInt = (h16.1 5 10).toInt := by rw [g25, show (6 : Int32).toNatClampNeg = 6 from rfl, wI_at (by decide)]
    have s29 : (h24.1 5 6).toInt = x22.toInt := by rw [g25, show (6 : Int32).toNatClampNeg = 6 from rfl, wI_is]
    exact R_vret rfl rfl ⟨hI, fr, ⟨by omega, by omega, by omega, trivial⟩, rfl⟩
abbrev q_X4_readPair_1 (h : PH) (a2 : Int32) : Option PV → PH → Prop := fun r h' => INV h' ∧ FR [1, 5, 10, 11, 12] h h' ∧ ((h'.1 5 0).toInt = (h.1 5 0).toInt ∧ (h'.1 5 10).toInt = (h.1 5 10).toInt ∧ ((h.1 1 1).toInt ≤ (h'.1 1 1).toInt) ∧ True) ∧ r = none
set_option maxHeartbeats 4000000 in
set_option maxRecDepth 100000 in
theorem k_X4_readPair_1 (h : PH) (hI : INV h) (a2 : Int32) (h2a : 1 ≤ a2.toInt ∧ a2.toInt ≤ 1) : CALL d_X4_readPair [.inr (.inr (.inl 1)), .inr (.inr (.inl 4)), .inr (.inr (.inr 10)), .inl a2] h (q_X4_readPair_1 h a2) := by
  show RUN d_X4_readPair 0 [(0, .inr (.inr (.inl 1))), (1, .inr (.inr (.inl 4))), (2, .inr (.inr (.inr 10))), (3, .inl a2)] [] h _
  have fr : FR [1, 5, 10, 11, 12] h h := FR.rf _ _
  have b1 : (0 : Int) ≤ (h.1 1 1).toInt ∧ (h.1 1 1).toInt ≤ 3 := hI.1 1 1
  refine R_aload_n (k := 1) rfl rfl rfl ?_
  refine R_getf_r (j := 0) rfl ft_4_49 sh_4 rfl ?_
  refine R_bipush 6 rfl rfl ?_
  refine R_iald rfl sh_5 (by decide) ?_
  have b2 : (0 : Int) ≤ (h.1 5 6).toInt ∧ (h.1 5 6).toInt ≤ 5 := hI.1 5 6
  show RUN d_X4_readPair 7 [(0, .inr (.inr (.inl 1))), (1, .inr (.inr (.inl 4))), (2, .inr (.inr (.inr 10))), (3, .inl a2)] [.inl (h.1 5 6)] h _
  refine R_iconst 5 rfl rfl ?_
  refine N_icmp_lt (a := (h.1 5 6).toInt) (b := 5) 16 rfl rfl rfl (by decide) (fun c3 => ?_) (fun c3 => ?_)
  · refine R_aload_n (k := 0) rfl rfl rfl ?_
    refine R_aload_c (k := 2) rfl rfl rfl (by decide) ?_
    refine R_callV (v := .inr (.inr (.inl 1))) (As := [.inr (.inr (.inr 10))]) (rest := []) rfl mt_4_i81 pp_X4_takeWord (by decide) rfl rfl rfl (Nat.le_of_ble_eq_true rfl) (Nat.le_of_ble_eq_true rfl) ((k_X4_takeWord_4 h hI).mono (fun r4 h5 p6 => ?_))
    obtain ⟨hJ, fj, ⟨xq7, -⟩, rfl⟩ := p6
    have f8 := fj
    have fr := fr.trans fj (by decide)
    have hI := hJ
    have s9 : (h5.1 5 0).toInt = (h.1 5 0).toInt := by rw [(f8 5 (by decide)).1]
    have s10 : (h5.1 5 10).toInt = (h.1 5 10).toInt := by rw [(f8 5 (by decide)).1]
    have s11 : (h5.1 5 6).toInt = (h.1 5 6).toInt := by rw [(f8 5 (by decide)).1]
    have b12 : (0 : Int) ≤ (h5.1 1 1).toInt ∧ (h5.1 1 1).toInt ≤ 3 := hI.1 1 1
    show RUN d_X4_readPair 21 [(0, .inr (.inr (.inl 1))), (1, .inr (.inr (.inl 4))), (2, .inr (.inr (.inr 10))), (3, .inl a2)] [] h5 _
    refine R_aload_n (k := 1) rfl rfl rfl ?_
    refine R_getf_r (j := 0) rfl ft_4_49 sh_4 rfl ?_
    refine R_iconst 5 rfl rfl ?_
    refine R_iald rfl sh_5 (by decide) ?_
    have b13 : (0 : Int) ≤ (h5.1 5 5).toInt ∧ (h5.1 5 5).toInt ≤ 6 := hI.1 5 5
    show RUN d_X4_readPair 27 [(0, .inr (.inr (.inl 1))), (1, .inr (.inr (.inl 4))), (2, .inr (.inr (.inr 10))), (3, .inl a2)] [.inl (h5.1 5 5)] h5 _
    refine R_iconst 1 rfl rfl ?_
    refine N_isub (a := (h5.1 5 5).toInt) (b := 1) rfl rfl (by decide) (by omega) (fun x14 q15 => ?_)
    refine R_istore (k := 4) [(4, .inl x14), (0, .inr (.inr (.inl 1))), (1, .inr (.inr (.inl 4))), (2, .inr (.inr (.inr 10))), (3, .inl a2)] rfl rfl (by decide) ?_
    refine R_aload_n (k := 0) rfl rfl rfl ?_
    refine R_iconst 0 rfl rfl ?_
    refine R_iload (k := 4) rfl rfl ?_
    refine R_iconst (-1) rfl rfl ?_
    have k16 : (0 : Int32).toInt = 0 := by decide
    have k17 : ((-1) : Int32).toInt = (-1) := by decide
    refine R_callV (v := .inr (.inr (.inl 1))) (As := [.inl 0, .inl x14, .inl (-1)]) (rest := []) rfl mt_4_i87 pp_X4_takeNumber (by decide) rfl rfl rfl (Nat.le_of_ble_eq_true rfl) (Nat.le_of_ble_eq_true rfl) ((k_X4_takeNumber h5 hI (0 : Int32) x14 ((-1) : Int32) (by decide) (by omega)).mono (fun r18 h19 p20 => ?_))
    obtain ⟨hJ, fj, ⟨xq21, -⟩, x23, rfl, q24, zq22, -⟩ := p20
    have f25 := fj
    have fr := fr.trans fj (by decide)
    have hI := hJ
    have s26 : (h19.1 5 0).toInt = (h5.1 5 0).toInt := by rw [(f25 5 (by decide)).1]
    have s27 : (h19.1 5 10).toInt = (h5.1 5 10).toInt := by rw [(f25 5 (by decide)).1]
    have s28 : (h19.1 5 6).toInt = (h5.1 5 6).toInt := by rw [(f25 5 (by decide)).1]
    have s29 : (h19.1 5 5).toInt = (h5.1 5 5).toInt := by rw [(f25 5 (by decide)).1]
    have b30 : (0 : Int) ≤ (h19.1 1 1).toInt ∧ (h19.1 1 1).toInt ≤ 3 := hI.1 1 1
    show RUN d_X4_readPair 39 [(4, .inl x14), (0, .inr (.inr (.inl 1))), (1, .inr (.inr (.inl 4))), (2, .inr (.inr (.inr 10))), (3, .inl a2)] [.inl x23] h19 _
    refine R_istore (k := 5) [(5, .inl x23), (4, .inl x14), (0, .inr (.inr (.inl 1))), (1, .inr (.inr (.inl 4))), (2, .inr (.inr (.inr 10))), (3, .inl a2)] rfl rfl (by decide) ?_
    refine R_aload_n (k := 0) rfl rfl rfl ?_
    refine R_iconst 0 rfl rfl ?_
    refine R_iload (k := 4) rfl rfl ?_
    refine R_iload (k := 5) rfl rfl ?_
    have k31 : (0 : Int32).toInt = 0 := by decide
    refine R_callV (v := .inr (.inr (.inl 1))) (As := [.inl 0, .inl x14, .inl x23]) (rest := []) rfl mt_4_i87 pp_X4_takeNumber (by decide) rfl rfl rfl (Nat.le_of_ble_eq_true rfl) (Nat.le_of_ble_eq_true rfl) ((k_X4_takeNumber h19 hI (0 : Int32) x14 x23 (by decide) (by omega)).mono (fun r32 h33 p34 => ?_))
    obtain ⟨hJ, fj, ⟨xq35, -⟩, x37, rfl, q38, zq36, -⟩ := p34
    have f39 := fj
    have fr := fr.trans fj (by decide)
    have hI := hJ
    have s40 : (h33.1 5 0).toInt = (h19.1 5 0).toInt := by rw [(f39 5 (by decide)).1]
    have s41 : (h33.1 5 10).toInt = (h19.1 5 10).toInt := by rw [(f39 5 (by decide)).1]
    have s42 : (h33.1 5 6).toInt = (h19.1 5 6).toInt := by rw [(f39 5 (by decide)).1]
    have s43 : (h33.1 5 5).toInt = (h19.1 5 5).toInt := by rw [(f39 5 (by decide)).1]
    have b44 : (0 : Int) ≤ (h33.1 1 1).toInt ∧ (h33.1 1 1).toInt ≤ 3 := hI.1 1 1
    show RUN d_X4_readPair 50 [(5, .inl x23), (4, .inl x14), (0, .inr (.inr (.inl 1))), (1, .inr (.inr (.inl 4))), (2, .inr (.inr (.inr 10))), (3, .inl a2)] [.inl x37] h33 _
    refine R_istore (k := 6) [(6, .inl x37), (5, .inl x23), (4, .inl x14), (0, .inr (.inr (.inl 1))), (1, .inr (.inr (.inl 4))), (2, .inr (.inr (.inr 10))), (3, .inl a2)] rfl rfl (by decide) ?_
    refine R_aload_n (k := 0) rfl rfl rfl ?_
    refine R_getf_i (j := 1) rfl ft_4_18 sh_1 rfl ?_
    refine N_if_ne (a := (h33.1 1 1).toInt) 68 rfl rfl rfl (fun c45 => ?_) (fun c45 => ?_)
    · exact R_vret rfl rfl ⟨hI, fr, ⟨by omega, by omega, by omega, trivial⟩, rfl⟩
    · refine R_aload_n (k := 1) rfl rfl rfl ?_
      refine R_iload (k := 5) rfl rfl ?_
      refine R_iload (k := 6) rfl rfl ?_
      refine R_iload_n (k := 3) rfl rfl rfl ?_
      have b46 := i_rng x23
      have b47 := i_rng x37
      refine R_callV (v := .inr (.inr (.inl 4))) (As := [.inl x23, .inl x37, .inl a2]) (rest := []) rfl mt_4_i111 pp_X1_addPair (by decide) rfl rfl rfl (Nat.le_of_ble_eq_true rfl) (Nat.le_of_ble_eq_true rfl) ((k_X1_addPair h33 hI x23 x37 a2 (by omega) (by omega) (by omega)).mono (fun r48 h49 p50 => ?_))
      obtain ⟨hJ, fj, ⟨kp51, kp52, kp53, -⟩, rfl⟩ := p50
      have f54 := fj
      have fr := fr.trans fj (by decide)
      have hI := hJ
      have s55 : (h49.1 1 1).toInt = (h33.1 1 1).toInt := by rw [(f54 1 (by decide)).1]
      show RUN d_X4_readPair 68 [(6, .inl x37), (5, .inl x23), (4, .inl x14), (0, .inr (.inr (.inl 1))), (1, .inr (.inr (.inl 4))), (2, .inr (.inr (.inr 10))), (3, .inl a2)] [] h49 _
      exact R_vret rfl rfl ⟨hI, fr, ⟨by omega, by omega, by omega, trivial⟩, rfl⟩
  · refine R_aload_n (k := 0) rfl rfl rfl ?_
    refine R_iconst 3 rfl rfl ?_
    have k56 : (3 : Int32).toInt = 3 := by decide
    refine R_callV (v := .inr (.inr (.inl 1))) (As := [.inl 3]) (rest := []) rfl mt_4_i99 pp_X4_refuse (by decide) rfl rfl rfl (Nat.le_of_ble_eq_true rfl) (Nat.le_of_ble_eq_true rfl) ((k_X4_refuse h hI (3 : Int32) (by decide)).mono (fun r57 h58 p59 => ?_))
    obtain ⟨hJ, fj, ⟨kp60, kp61, xq62, xq63, -⟩, rfl⟩ := p59
    have f64 := fj
    have fr := fr.trans fj (by decide)
    have hI := hJ
    have s65 : (h58.1 5 0).toInt = (h.1 5 0).toInt := by rw [(f64 5 (by decide)).1]
    have s66 : (h58.1 5 10).toInt = (h.1 5 10).toInt := by rw [(f64 5 (by decide)).1]
    have s67 : (h58.1 5 6).toInt = (h.1 5 6).toInt := by rw [(f64 5 (by decide)).1]
    have b68 : (0 : Int) ≤ (h58.1 1 1).toInt ∧ (h58.1 1 1).toInt ≤ 3 := hI.1 1 1
    show RUN d_X4_readPair 16 [(0, .inr (.inr (.inl 1))), (1, .inr (.inr (.inl 4))), (2, .inr (.inr (.inr 10))), (3, .inl a2)] [] h58 _
    refine R_aload_n (k := 0) rfl rfl rfl ?_
    refine R_aload_c (k := 2) rfl rfl rfl (by decide) ?_
    refine R_callV (v := .inr (.inr (.inl 1))) (As := [.inr (.inr (.inr 10))]) (rest := []) rfl mt_4_i81 pp_X4_takeWord (by decide) rfl rfl rfl (Nat.le_of_ble_eq_true rfl) (Nat.le_of_ble_eq_true rfl) ((k_X4_takeWord_4 h58 hI).mono (fun r69 h70 p71 => ?_))
    obtain ⟨hJ, fj, ⟨xq72, -⟩, rfl⟩ := p71
    have f73 := fj
    have fr := fr.trans fj (by decide)
    have hI := hJ
    have s74 : (h70.1 5 0).toInt = (h58.1 5 0).toInt := by rw [(f73 5 (by decide)).1]
    have s75 : (h70.1 5 10).toInt = (h58.1 5 10).toInt := by rw [(f73 5 (by decide)).1]
    have s76 : (h70.1 5 6).toInt = (h58.1 5 6).toInt := by rw [(f73 5 (by decide)).1]
    have b77 : (0 : Int) ≤ (h70.1 1 1).toInt ∧ (h70.1 1 1).toInt ≤ 3 := hI.1 1 1
    show RUN d_X4_readPair 21 [(0, .inr (.inr (.inl 1))), (1, .inr (.inr (.inl 4))), (2, .inr (.inr (.inr 10))), (3, .inl a2)] [] h70 _
    refine R_aload_n (k := 1) rfl rfl rfl ?_
    refine R_getf_r (j := 0) rfl ft_4_49 sh_4 rfl ?_
    refine R_iconst 5 rfl rfl ?_
    refine R_iald rfl sh_5 (by decide) ?_
    have b78 : (0 : Int) ≤ (h70.1 5 5).toInt ∧ (h70.1 5 5).toInt ≤ 6 := hI.1 5 5
    show RUN d_X4_readPair 27 [(0, .inr (.inr (.inl 1))), (1, .inr (.inr (.inl 4))), (2, .inr (.inr (.inr 10))), (3, .inl a2)] [.inl (h70.1 5 5)] h70 _
    refine R_iconst 1 rfl rfl ?_
    refine N_isub (a := (h70.1 5 5).toInt) (b := 1) rfl rfl (by decide) (by omega) (fun x79 q80 => ?_)
    refine R_istore (k := 4) [(4, .inl x79), (0, .inr (.inr (.inl 1))), (1, .inr (.inr (.inl 4))), (2, .inr (.inr (.inr 10))), (3, .inl a2)] rfl rfl (by decide) ?_
    refine R_aload_n (k := 0) rfl rfl rfl ?_
    refine R_iconst 0 rfl rfl ?_
    refine R_iload (k := 4) rfl rfl ?_
    refine R_iconst (-1) rfl rfl ?_
    have k81 : (0 : Int32).toInt = 0 := by decide
    have k82 : ((-1) : Int32).toInt = (-1) := by decide
    refine R_callV (v := .inr (.inr (.inl 1))) (As := [.inl 0, .inl x79, .inl (-1)]) (rest := []) rfl mt_4_i87 pp_X4_takeNumber (by decide) rfl rfl rfl (Nat.le_of_ble_eq_true rfl) (Nat.le_of_ble_eq_true rfl) ((k_X4_takeNumber h70 hI (0 : Int32) x79 ((-1) : Int32) (by decide) (by omega)).mono (fun r83 h84 p85 => ?_))
    obtain ⟨hJ, fj, ⟨xq86, -⟩, x88, rfl, q89, zq87, -⟩ := p85
    have f90 := fj
    have fr := fr.trans fj (by decide)
    have hI := hJ
    have s91 : (h84.1 5 0).toInt = (h70.1 5 0).toInt := by rw [(f90 5 (by decide)).1]
    have s92 : (h84.1 5 10).toInt = (h70.1 5 10).toInt := by rw [(f90 5 (by decide)).1]
    have s93 : (h84.1 5 6).toInt = (h70.1 5 6).toInt := by rw [(f90 5 (by decide)).1]
    have s94 : (h84.1 5 5).toInt = (h70.1 5 5).toInt := by rw [(f90 5 (by decide)).1]
    have b95 : (0 : Int) ≤ (h84.1 1 1).toInt ∧ (h84.1 1 1).toInt ≤ 3 := hI.1 1 1
    show RUN d_X4_readPair 39 [(4, .inl x79), (0, .inr (.inr (.inl 1))), (1, .inr (.inr (.inl 4))), (2, .inr (.inr (.inr 10))), (3, .inl a2)] [.inl x88] h84 _
    refine R_istore (k := 5) [(5, .inl x88), (4, .inl x79), (0, .inr (.inr (.inl 1))), (1, .inr (.inr (.inl 4))), (2, .inr (.inr (.inr 10))), (3, .inl a2)] rfl rfl (by decide) ?_
    refine R_aload_n (k := 0) rfl rfl rfl ?_
    refine R_iconst 0 rfl rfl ?_
    refine R_iload (k := 4) rfl rfl ?_
    refine R_iload (k := 5) rfl rfl ?_
    have k96 : (0 : Int32).toInt = 0 := by decide
    refine R_callV (v := .inr (.inr (.inl 1))) (As := [.inl 0, .inl x79, .inl x88]) (rest := []) rfl mt_4_i87 pp_X4_takeNumber (by decide) rfl rfl rfl (Nat.le_of_ble_eq_true rfl) (Nat.le_of_ble_eq_true rfl) ((k_X4_takeNumber h84 hI (0 : Int32) x79 x88 (by decide) (by omega)).mono (fun r97 h98 p99 => ?_))
    obtain ⟨hJ, fj, ⟨xq100, -⟩, x102, rfl, q103, zq101, -⟩ := p99
    have f104 := fj
    have fr := fr.trans fj (by decide)
    have hI := hJ
    have s105 : (h98.1 5 0).toInt = (h84.1 5 0).toInt := by rw [(f104 5 (by decide)).1]
    have s106 : (h98.1 5 10).toInt = (h84.1 5 10).toInt := by rw [(f104 5 (by decide)).1]
    have s107 : (h98.1 5 6).toInt = (h84.1 5 6).toInt := by rw [(f104 5 (by decide)).1]
    have s108 : (h98.1 5 5).toInt = (h84.1 5 5).toInt := by rw [(f104 5 (by decide)).1]
    have b109 : (0 : Int) ≤ (h98.1 1 1).toInt ∧ (h98.1 1 1).toInt ≤ 3 := hI.1 1 1
    show RUN d_X4_readPair 50 [(5, .inl x88), (4, .inl x79), (0, .inr (.inr (.inl 1))), (1, .inr (.inr (.inl 4))), (2, .inr (.inr (.inr 10))), (3, .inl a2)] [.inl x102] h98 _
    refine R_istore (k := 6) [(6, .inl x102), (5, .inl x88), (4, .inl x79), (0, .inr (.inr (.inl 1))), (1, .inr (.inr (.inl 4))), (2, .inr (.inr (.inr 10))), (3, .inl a2)] rfl rfl (by decide) ?_
    refine R_aload_n (k := 0) rfl rfl rfl ?_
    refine R_getf_i (j := 1) rfl ft_4_18 sh_1 rfl ?_
    refine N_if_ne (a := (h98.1 1 1).toInt) 68 rfl rfl rfl (fun c110 => ?_) (fun c110 => ?_)
    · exact R_vret rfl rfl ⟨hI, fr, ⟨by omega, by omega, by omega, trivial⟩, rfl⟩
    · refine R_aload_n (k := 1) rfl rfl rfl ?_
      refine R_iload (k := 5) rfl rfl ?_
      refine R_iload (k := 6) rfl rfl ?_
      refine R_iload_n (k := 3) rfl rfl rfl ?_
      have b111 := i_rng x88
      have b112 := i_rng x102
      refine R_callV (v := .inr (.inr (.inl 4))) (As := [.inl x88, .inl x102, .inl a2]) (rest := []) rfl mt_4_i111 pp_X1_addPair (by decide) rfl rfl rfl (Nat.le_of_ble_eq_true rfl) (Nat.le_of_ble_eq_true rfl) ((k_X1_addPair h98 hI x88 x102 a2 (by omega) (by omega) (by omega)).mono (fun r113 h114 p115 => ?_))
      obtain ⟨hJ, fj, ⟨kp116, kp117, kp118, -⟩, rfl⟩ := p115
      have f119 := fj
      have fr := fr.trans fj (by decide)
      have hI := hJ
      have s120 : (h114.1 1 1).toInt = (h98.1 1 1).toInt := by rw [(f119 1 (by decide)).1]
      show RUN d_X4_readPair 68 [(6, .inl x102), (5, .inl x88), (4, .inl x79), (0, .inr (.inr (.inl 1))), (1, .inr (.inr (.inl 4))), (2, .inr (.inr (.inr 10))), (3, .inl a2)] [] h114 _
      exact R_vret rfl rfl ⟨hI, fr, ⟨by omega, by omega, by omega, trivial⟩, rfl⟩
abbrev q_X4_readPair (h : PH) (a2 : Int32) : Option PV → PH → Prop := fun r h' => INV h' ∧ FR [1, 5, 10, 11, 12] h h' ∧ ((h'.1 5 0).toInt = (h.1 5 0).toInt ∧ (h'.1 5 10).toInt = (h.1 5 10).toInt ∧ ((h.1 1 1).toInt ≤ (h'.1 1 1).toInt) ∧ True) ∧ r = none
set_option maxHeartbeats 4000000 in
set_option maxRecDepth 100000 in
theorem k_X4_readPair (h : PH) (hI : INV h) (a2 : Int32) (h2a : 0 ≤ a2.toInt ∧ a2.toInt ≤ 0) : CALL d_X4_readPair [.inr (.inr (.inl 1)), .inr (.inr (.inl 4)), .inr (.inr (.inr 11)), .inl a2] h (q_X4_readPair h a2) := by
  show RUN d_X4_readPair 0 [(0, .inr (.inr (.inl 1))), (1, .inr (.inr (.inl 4))), (2, .inr (.inr (.inr 11))), (3, .inl a2)] [] h _
  have fr : FR [1, 5, 10, 11, 12] h h := FR.rf _ _
  have b1 : (0 : Int) ≤ (h.1 1 1).toInt ∧ (h.1 1 1).toInt ≤ 3 := hI.1 1 1
  refine R_aload_n (k := 1) rfl rfl rfl ?_
  refine R_getf_r (j := 0) rfl ft_4_49 sh_4 rfl ?_
  refine R_bipush 6 rfl rfl ?_
  refine R_iald rfl sh_5 (by decide) ?_
  have b2 : (0 : Int) ≤ (h.1 5 6).toInt ∧ (h.1 5 6).toInt ≤ 5 := hI.1 5 6
  show RUN d_X4_readPair 7 [(0, .inr (.inr (.inl 1))), (1, .inr (.inr (.inl 4))), (2, .inr (.inr (.inr 11))), (3, .inl a2)] [.inl (h.1 5 6)] h _
  refine R_iconst 5 rfl rfl ?_
  refine N_icmp_lt (a := (h.1 5 6).toInt) (b := 5) 16 rfl rfl rfl (by decide) (fun c3 => ?_) (fun c3 => ?_)
  · refine R_aload_n (k := 0) rfl rfl rfl ?_
    refine R_aload_c (k := 2) rfl rfl rfl (by decide) ?_
    refine R_callV (v := .inr (.inr (.inl 1))) (As := [.inr (.inr (.inr 11))]) (rest := []) rfl mt_4_i81 pp_X4_takeWord (by decide) rfl rfl rfl (Nat.le_of_ble_eq_true rfl) (Nat.le_of_ble_eq_true rfl) ((k_X4_takeWord_3 h hI).mono (fun r4 h5 p6 => ?_))
    obtain ⟨hJ, fj, ⟨xq7, -⟩, rfl⟩ := p6
    have f8 := fj
    have fr := fr.trans fj (by decide)
    have hI := hJ
    have s9 : (h5.1 5 0).toInt = (h.1 5 0).toInt := by rw [(f8 5 (by decide)).1]
    have s10 : (h5.1 5 10).toInt = (h.1 5 10).toInt := by rw [(f8 5 (by decide)).1]
    have s11 : (h5.1 5 6).toInt = (h.1 5 6).toInt := by rw [(f8 5 (by decide)).1]
    have b12 : (0 : Int) ≤ (h5.1 1 1).toInt ∧ (h5.1 1 1).toInt ≤ 3 := hI.1 1 1
    show RUN d_X4_readPair 21 [(0, .inr (.inr (.inl 1))), (1, .inr (.inr (.inl 4))), (2, .inr (.inr (.inr 11))), (3, .inl a2)] [] h5 _
    refine R_aload_n (k := 1) rfl rfl rfl ?_
    refine R_getf_r (j := 0) rfl ft_4_49 sh_4 rfl ?_
    refine R_iconst 5 rfl rfl ?_
    refine R_iald rfl sh_5 (by decide) ?_
    have b13 : (0 : Int) ≤ (h5.1 5 5).toInt ∧ (h5.1 5 5).toInt ≤ 6 := hI.1 5 5
    show RUN d_X4_readPair 27 [(0, .inr (.inr (.inl 1))), (1, .inr (.inr (.inl 4))), (2, .inr (.inr (.inr 11))), (3, .inl a2)] [.inl (h5.1 5 5)] h5 _
    refine R_iconst 1 rfl rfl ?_
    refine N_isub (a := (h5.1 5 5).toInt) (b := 1) rfl rfl (by decide) (by omega) (fun x14 q15 => ?_)
    refine R_istore (k := 4) [(4, .inl x14), (0, .inr (.inr (.inl 1))), (1, .inr (.inr (.inl 4))), (2, .inr (.inr (.inr 11))), (3, .inl a2)] rfl rfl (by decide) ?_
    refine R_aload_n (k := 0) rfl rfl rfl ?_
    refine R_iconst 0 rfl rfl ?_
    refine R_iload (k := 4) rfl rfl ?_
    refine R_iconst (-1) rfl rfl ?_
    have k16 : (0 : Int32).toInt = 0 := by decide
    have k17 : ((-1) : Int32).toInt = (-1) := by decide
    refine R_callV (v := .inr (.inr (.inl 1))) (As := [.inl 0, .inl x14, .inl (-1)]) (rest := []) rfl mt_4_i87 pp_X4_takeNumber (by decide) rfl rfl rfl (Nat.le_of_ble_eq_true rfl) (Nat.le_of_ble_eq_true rfl) ((k_X4_takeNumber h5 hI (0 : Int32) x14 ((-1) : Int32) (by decide) (by omega)).mono (fun r18 h19 p20 => ?_))
    obtain ⟨hJ, fj, ⟨xq21, -⟩, x23, rfl, q24, zq22, -⟩ := p20
    have f25 := fj
    have fr := fr.trans fj (by decide)
    have hI := hJ
    have s26 : (h19.1 5 0).toInt = (h5.1 5 0).toInt := by rw [(f25 5 (by decide)).1]
    have s27 : (h19.1 5 10).toInt = (h5.1 5 10).toInt := by rw [(f25 5 (by decide)).1]
    have s28 : (h19.1 5 6).toInt = (h5.1 5 6).toInt := by rw [(f25 5 (by decide)).1]
    have s29 : (h19.1 5 5).toInt = (h5.1 5 5).toInt := by rw [(f25 5 (by decide)).1]
    have b30 : (0 : Int) ≤ (h19.1 1 1).toInt ∧ (h19.1 1 1).toInt ≤ 3 := hI.1 1 1
    show RUN d_X4_readPair 39 [(4, .inl x14), (0, .inr (.inr (.inl 1))), (1, .inr (.inr (.inl 4))), (2, .inr (.inr (.inr 11))), (3, .inl a2)] [.inl x23] h19 _
    refine R_istore (k := 5) [(5, .inl x23), (4, .inl x14), (0, .inr (.inr (.inl 1))), (1, .inr (.inr (.inl 4))), (2, .inr (.inr (.inr 11))), (3, .inl a2)] rfl rfl (by decide) ?_
    refine R_aload_n (k := 0) rfl rfl rfl ?_
    refine R_iconst 0 rfl rfl ?_
    refine R_iload (k := 4) rfl rfl ?_
    refine R_iload (k := 5) rfl rfl ?_
    have k31 : (0 : Int32).toInt = 0 := by decide
    refine R_callV (v := .inr (.inr (.inl 1))) (As := [.inl 0, .inl x14, .inl x23]) (rest := []) rfl mt_4_i87 pp_X4_takeNumber (by decide) rfl rfl rfl (Nat.le_of_ble_eq_true rfl) (Nat.le_of_ble_eq_true rfl) ((k_X4_takeNumber h19 hI (0 : Int32) x14 x23 (by decide) (by omega)).mono (fun r32 h33 p34 => ?_))
    obtain ⟨hJ, fj, ⟨xq35, -⟩, x37, rfl, q38, zq36, -⟩ := p34
    have f39 := fj
    have fr := fr.trans fj (by decide)
    have hI := hJ
    have s40 : (h33.1 5 0).toInt = (h19.1 5 0).toInt := by rw [(f39 5 (by decide)).1]
    have s41 : (h33.1 5 10).toInt = (h19.1 5 10).toInt := by rw [(f39 5 (by decide)).1]
    have s42 : (h33.1 5 6).toInt = (h19.1 5 6).toInt := by rw [(f39 5 (by decide)).1]
    have s43 : (h33.1 5 5).toInt = (h19.1 5 5).toInt := by rw [(f39 5 (by decide)).1]
    have b44 : (0 : Int) ≤ (h33.1 1 1).toInt ∧ (h33.1 1 1).toInt ≤ 3 := hI.1 1 1
    show RUN d_X4_readPair 50 [(5, .inl x23), (4, .inl x14), (0, .inr (.inr (.inl 1))), (1, .inr (.inr (.inl 4))), (2, .inr (.inr (.inr 11))), (3, .inl a2)] [.inl x37] h33 _
    refine R_istore (k := 6) [(6, .inl x37), (5, .inl x23), (4, .inl x14), (0, .inr (.inr (.inl 1))), (1, .inr (.inr (.inl 4))), (2, .inr (.inr (.inr 11))), (3, .inl a2)] rfl rfl (by decide) ?_
    refine R_aload_n (k := 0) rfl rfl rfl ?_
    refine R_getf_i (j := 1) rfl ft_4_18 sh_1 rfl ?_
    refine N_if_ne (a := (h33.1 1 1).toInt) 68 rfl rfl rfl (fun c45 => ?_) (fun c45 => ?_)
    · exact R_vret rfl rfl ⟨hI, fr, ⟨by omega, by omega, by omega, trivial⟩, rfl⟩
    · refine R_aload_n (k := 1) rfl rfl rfl ?_
      refine R_iload (k := 5) rfl rfl ?_
      refine R_iload (k := 6) rfl rfl ?_
      refine R_iload_n (k := 3) rfl rfl rfl ?_
      have b46 := i_rng x23
      have b47 := i_rng x37
      refine R_callV (v := .inr (.inr (.inl 4))) (As := [.inl x23, .inl x37, .inl a2]) (rest := []) rfl mt_4_i111 pp_X1_addPair (by decide) rfl rfl rfl (Nat.le_of_ble_eq_true rfl) (Nat.le_of_ble_eq_true rfl) ((k_X1_addPair h33 hI x23 x37 a2 (by omega) (by omega) (by omega)).mono (fun r48 h49 p50 => ?_))
      obtain ⟨hJ, fj, ⟨kp51, kp52, kp53, -⟩, rfl⟩ := p50
      have f54 := fj
      have fr := fr.trans fj (by decide)
      have hI := hJ
      have s55 : (h49.1 1 1).toInt = (h33.1 1 1).toInt := by rw [(f54 1 (by decide)).1]
      show RUN d_X4_readPair 68 [(6, .inl x37), (5, .inl x23), (4, .inl x14), (0, .inr (.inr (.inl 1))), (1, .inr (.inr (.inl 4))), (2, .inr (.inr (.inr 11))), (3, .inl a2)] [] h49 _
      exact R_vret rfl rfl ⟨hI, fr, ⟨by omega, by omega, by omega, trivial⟩, rfl⟩
  · refine R_aload_n (k := 0) rfl rfl rfl ?_
    refine R_iconst 3 rfl rfl ?_
    have k56 : (3 : Int32).toInt = 3 := by decide
    refine R_callV (v := .inr (.inr (.inl 1))) (As := [.inl 3]) (rest := []) rfl mt_4_i99 pp_X4_refuse (by decide) rfl rfl rfl (Nat.le_of_ble_eq_true rfl) (Nat.le_of_ble_eq_true rfl) ((k_X4_refuse h hI (3 : Int32) (by decide)).mono (fun r57 h58 p59 => ?_))
    obtain ⟨hJ, fj, ⟨kp60, kp61, xq62, xq63, -⟩, rfl⟩ := p59
    have f64 := fj
    have fr := fr.trans fj (by decide)
    have hI := hJ
    have s65 : (h58.1 5 0).toInt = (h.1 5 0).toInt := by rw [(f64 5 (by decide)).1]
    have s66 : (h58.1 5 10).toInt = (h.1 5 10).toInt := by rw [(f64 5 (by decide)).1]
    have s67 : (h58.1 5 6).toInt = (h.1 5 6).toInt := by rw [(f64 5 (by decide)).1]
    have b68 : (0 : Int) ≤ (h58.1 1 1).toInt ∧ (h58.1 1 1).toInt ≤ 3 := hI.1 1 1
    show RUN d_X4_readPair 16 [(0, .inr (.inr (.inl 1))), (1, .inr (.inr (.inl 4))), (2, .inr (.inr (.inr 11))), (3, .inl a2)] [] h58 _
    refine R_aload_n (k := 0) rfl rfl rfl ?_
    refine R_aload_c (k := 2) rfl rfl rfl (by decide) ?_
    refine R_callV (v := .inr (.inr (.inl 1))) (As := [.inr (.inr (.inr 11))]) (rest := []) rfl mt_4_i81 pp_X4_takeWord (by decide) rfl rfl rfl (Nat.le_of_ble_eq_true rfl) (Nat.le_of_ble_eq_true rfl) ((k_X4_takeWord_3 h58 hI).mono (fun r69 h70 p71 => ?_))
    obtain ⟨hJ, fj, ⟨xq72, -⟩, rfl⟩ := p71
    have f73 := fj
    have fr := fr.trans fj (by decide)
    have hI := hJ
    have s74 : (h70.1 5 0).toInt = (h58.1 5 0).toInt := by rw [(f73 5 (by decide)).1]
    have s75 : (h70.1 5 10).toInt = (h58.1 5 10).toInt := by rw [(f73 5 (by decide)).1]
    have s76 : (h70.1 5 6).toInt = (h58.1 5 6).toInt := by rw [(f73 5 (by decide)).1]
    have b77 : (0 : Int) ≤ (h70.1 1 1).toInt ∧ (h70.1 1 1).toInt ≤ 3 := hI.1 1 1
    show RUN d_X4_readPair 21 [(0, .inr (.inr (.inl 1))), (1, .inr (.inr (.inl 4))), (2, .inr (.inr (.inr 11))), (3, .inl a2)] [] h70 _
    refine R_aload_n (k := 1) rfl rfl rfl ?_
    refine R_getf_r (j := 0) rfl ft_4_49 sh_4 rfl ?_
    refine R_iconst 5 rfl rfl ?_
    refine R_iald rfl sh_5 (by decide) ?_
    have b78 : (0 : Int) ≤ (h70.1 5 5).toInt ∧ (h70.1 5 5).toInt ≤ 6 := hI.1 5 5
    show RUN d_X4_readPair 27 [(0, .inr (.inr (.inl 1))), (1, .inr (.inr (.inl 4))), (2, .inr (.inr (.inr 11))), (3, .inl a2)] [.inl (h70.1 5 5)] h70 _
    refine R_iconst 1 rfl rfl ?_
    refine N_isub (a := (h70.1 5 5).toInt) (b := 1) rfl rfl (by decide) (by omega) (fun x79 q80 => ?_)
    refine R_istore (k := 4) [(4, .inl x79), (0, .inr (.inr (.inl 1))), (1, .inr (.inr (.inl 4))), (2, .inr (.inr (.inr 11))), (3, .inl a2)] rfl rfl (by decide) ?_
    refine R_aload_n (k := 0) rfl rfl rfl ?_
    refine R_iconst 0 rfl rfl ?_
    refine R_iload (k := 4) rfl rfl ?_
    refine R_iconst (-1) rfl rfl ?_
    have k81 : (0 : Int32).toInt = 0 := by decide
    have k82 : ((-1) : Int32).toInt = (-1) := by decide
    refine R_callV (v := .inr (.inr (.inl 1))) (As := [.inl 0, .inl x79, .inl (-1)]) (rest := []) rfl mt_4_i87 pp_X4_takeNumber (by decide) rfl rfl rfl (Nat.le_of_ble_eq_true rfl) (Nat.le_of_ble_eq_true rfl) ((k_X4_takeNumber h70 hI (0 : Int32) x79 ((-1) : Int32) (by decide) (by omega)).mono (fun r83 h84 p85 => ?_))
    obtain ⟨hJ, fj, ⟨xq86, -⟩, x88, rfl, q89, zq87, -⟩ := p85
    have f90 := fj
    have fr := fr.trans fj (by decide)
    have hI := hJ
    have s91 : (h84.1 5 0).toInt = (h70.1 5 0).toInt := by rw [(f90 5 (by decide)).1]
    have s92 : (h84.1 5 10).toInt = (h70.1 5 10).toInt := by rw [(f90 5 (by decide)).1]
    have s93 : (h84.1 5 6).toInt = (h70.1 5 6).toInt := by rw [(f90 5 (by decide)).1]
    have s94 : (h84.1 5 5).toInt = (h70.1 5 5).toInt := by rw [(f90 5 (by decide)).1]
    have b95 : (0 : Int) ≤ (h84.1 1 1).toInt ∧ (h84.1 1 1).toInt ≤ 3 := hI.1 1 1
    show RUN d_X4_readPair 39 [(4, .inl x79), (0, .inr (.inr (.inl 1))), (1, .inr (.inr (.inl 4))), (2, .inr (.inr (.inr 11))), (3, .inl a2)] [.inl x88] h84 _
    refine R_istore (k := 5) [(5, .inl x88), (4, .inl x79), (0, .inr (.inr (.inl 1))), (1, .inr (.inr (.inl 4))), (2, .inr (.inr (.inr 11))), (3, .inl a2)] rfl rfl (by decide) ?_
    refine R_aload_n (k := 0) rfl rfl rfl ?_
    refine R_iconst 0 rfl rfl ?_
    refine R_iload (k := 4) rfl rfl ?_
    refine R_iload (k := 5) rfl rfl ?_
    have k96 : (0 : Int32).toInt = 0 := by decide
    refine R_callV (v := .inr (.inr (.inl 1))) (As := [.inl 0, .inl x79, .inl x88]) (rest := []) rfl mt_4_i87 pp_X4_takeNumber (by decide) rfl rfl rfl (Nat.le_of_ble_eq_true rfl) (Nat.le_of_ble_eq_true rfl) ((k_X4_takeNumber h84 hI (0 : Int32) x79 x88 (by decide) (by omega)).mono (fun r97 h98 p99 => ?_))
    obtain ⟨hJ, fj, ⟨xq100, -⟩, x102, rfl, q103, zq101, -⟩ := p99
    have f104 := fj
    have fr := fr.trans fj (by decide)
    have hI := hJ
    have s105 : (h98.1 5 0).toInt = (h84.1 5 0).toInt := by rw [(f104 5 (by decide)).1]
    have s106 : (h98.1 5 10).toInt = (h84.1 5 10).toInt := by rw [(f104 5 (by decide)).1]
    have s107 : (h98.1 5 6).toInt = (h84.1 5 6).toInt := by rw [(f104 5 (by decide)).1]
    have s108 : (h98.1 5 5).toInt = (h84.1 5 5).toInt := by rw [(f104 5 (by decide)).1]
    have b109 : (0 : Int) ≤ (h98.1 1 1).toInt ∧ (h98.1 1 1).toInt ≤ 3 := hI.1 1 1
    show RUN d_X4_readPair 50 [(5, .inl x88), (4, .inl x79), (0, .inr (.inr (.inl 1))), (1, .inr (.inr (.inl 4))), (2, .inr (.inr (.inr 11))), (3, .inl a2)] [.inl x102] h98 _
    refine R_istore (k := 6) [(6, .inl x102), (5, .inl x88), (4, .inl x79), (0, .inr (.inr (.inl 1))), (1, .inr (.inr (.inl 4))), (2, .inr (.inr (.inr 11))), (3, .inl a2)] rfl rfl (by decide) ?_
    refine R_aload_n (k := 0) rfl rfl rfl ?_
    refine R_getf_i (j := 1) rfl ft_4_18 sh_1 rfl ?_
    refine N_if_ne (a := (h98.1 1 1).toInt) 68 rfl rfl rfl (fun c110 => ?_) (fun c110 => ?_)
    · exact R_vret rfl rfl ⟨hI, fr, ⟨by omega, by omega, by omega, trivial⟩, rfl⟩
    · refine R_aload_n (k := 1) rfl rfl rfl ?_
      refine R_iload (k := 5) rfl rfl ?_
      refine R_iload (k := 6) rfl rfl ?_
      refine R_iload_n (k := 3) rfl rfl rfl ?_
      have b111 := i_rng x88
      have b112 := i_rng x102
      refine R_callV (v := .inr (.inr (.inl 4))) (As := [.inl x88, .inl x102, .inl a2]) (rest := []) rfl mt_4_i111 pp_X1_addPair (by decide) rfl rfl rfl (Nat.le_of_ble_eq_true rfl) (Nat.le_of_ble_eq_true rfl) ((k_X1_addPair h98 hI x88 x102 a2 (by omega) (by omega) (by omega)).mono (fun r113 h114 p115 => ?_))
      obtain ⟨hJ, fj, ⟨kp116, kp117, kp118, -⟩, rfl⟩ := p115
      have f119 := fj
      have fr := fr.trans fj (by decide)
      have hI := hJ
      have s120 : (h114.1 1 1).toInt = (h98.1 1 1).toInt := by rw [(f119 1 (by decide)).1]
      show RUN d_X4_readPair 68 [(6, .inl x102), (5, .inl x88), (4, .inl x79), (0, .inr (.inr (.inl 1))), (1, .inr (.inr (.inl 4))), (2, .inr (.inr (.inr 11))), (3, .inl a2)] [] h114 _
      exact R_vret rfl rfl ⟨hI, fr, ⟨by omega, by omega, by omega, trivial⟩, rfl⟩
abbrev q_X4_readFire (h : PH)  : Option PV → PH → Prop := fun r h' => INV h' ∧ FR [1, 5] h h' ∧ ((h'.1 5 0).toInt = (h.1 5 0).toInt ∧ (h'.1 5 10).toInt = (h.1 5 10).toInt ∧ ((h.1 1 1).toInt ≤ (h'.1 1 1).toInt) ∧ True) ∧ r = none
set_option maxHeartbeats 4000000 in
set_option maxRecDepth 100000 in
theorem k_X4_readFire (h : PH) (hI : INV h)  : CALL d_X4_readFire [.inr (.inr (.inl 1)), .inr (.inr (.inl 4))] h (q_X4_readFire h) := by
  show RUN d_X4_readFire 0 [(0, .inr (.inr (.inl 1))), (1, .inr (.inr (.inl 4)))] [] h _
  have fr : FR [1, 5] h h := FR.rf _ _
  have b1 : (0 : Int) ≤ (h.1 1 1).toInt ∧ (h.1 1 1).toInt ≤ 3 := hI.1 1 1
  refine R_aload_n (k := 0) rfl rfl rfl ?_
  refine R_ldc_s (i := 11) rfl kt_4_115 ?_
  refine R_callV (v := .inr (.inr (.inl 1))) (As := [.inr (.inr (.inr 12))]) (rest := []) rfl mt_4_i81 pp_X4_takeWord (by decide) rfl rfl rfl (Nat.le_of_ble_eq_true rfl) (Nat.le_of_ble_eq_true rfl) ((k_X4_takeWord h hI).mono (fun r2 h3 p4 => ?_))
  obtain ⟨hJ, fj, ⟨xq5, -⟩, rfl⟩ := p4
  have f6 := fj
  have fr := fr.trans fj (by decide)
  have hI := hJ
  have s7 : (h3.1 5 0).toInt = (h.1 5 0).toInt := by rw [(f6 5 (by decide)).1]
  have s8 : (h3.1 5 10).toInt = (h.1 5 10).toInt := by rw [(f6 5 (by decide)).1]
  have b9 : (0 : Int) ≤ (h3.1 1 1).toInt ∧ (h3.1 1 1).toInt ≤ 3 := hI.1 1 1
  show RUN d_X4_readFire 6 [(0, .inr (.inr (.inl 1))), (1, .inr (.inr (.inl 4)))] [] h3 _
  refine R_aload_n (k := 0) rfl rfl rfl ?_
  refine R_ldc_s (i := 12) rfl kt_4_117 ?_
  refine R_callV (v := .inr (.inr (.inl 1))) (As := [.inr (.inr (.inr 13))]) (rest := []) rfl mt_4_i81 pp_X4_takeWord (by decide) rfl rfl rfl (Nat.le_of_ble_eq_true rfl) (Nat.le_of_ble_eq_true rfl) ((k_X4_takeWord_1 h3 hI).mono (fun r10 h11 p12 => ?_))
  obtain ⟨hJ, fj, ⟨xq13, -⟩, rfl⟩ := p12
  have f14 := fj
  have fr := fr.trans fj (by decide)
  have hI := hJ
  have s15 : (h11.1 5 0).toInt = (h3.1 5 0).toInt := by rw [(f14 5 (by decide)).1]
  have s16 : (h11.1 5 10).toInt = (h3.1 5 10).toInt := by rw [(f14 5 (by decide)).1]
  have b17 : (0 : Int) ≤ (h11.1 1 1).toInt ∧ (h11.1 1 1).toInt ≤ 3 := hI.1 1 1
  show RUN d_X4_readFire 12 [(0, .inr (.inr (.inl 1))), (1, .inr (.inr (.inl 4)))] [] h11 _
  refine R_aload_n (k := 1) rfl rfl rfl ?_
  refine R_getf_r (j := 0) rfl ft_4_49 sh_4 rfl ?_
  refine R_bipush 7 rfl rfl ?_
  refine R_aload_n (k := 0) rfl rfl rfl ?_
  refine R_iconst 1 rfl rfl ?_
  refine R_sipush 999 rfl rfl ?_
  refine R_iconst (-1) rfl rfl ?_
  have k18 : (1 : Int32).toInt = 1 := by decide
  have k19 : (999 : Int32).toInt = 999 := by decide
  have k20 : ((-1) : Int32).toInt = (-1) := by decide
  refine R_callV (v := .inr (.inr (.inl 1))) (As := [.inl 1, .inl 999, .inl (-1)]) (rest := [.inl 7, .inr (.inr (.inl 5))]) rfl mt_4_i87 pp_X4_takeNumber (by decide) rfl rfl rfl (Nat.le_of_ble_eq_true rfl) (Nat.le_of_ble_eq_true rfl) ((k_X4_takeNumber h11 hI (1 : Int32) (999 : Int32) ((-1) : Int32) (by decide) (by decide)).mono (fun r21 h22 p23 => ?_))
  obtain ⟨hJ, fj, ⟨xq24, -⟩, x26, rfl, q27, zq25, -⟩ := p23
  have f28 := fj
  have fr := fr.trans fj (by decide)
  have hI := hJ
  have s29 : (h22.1 5 0).toInt = (h11.1 5 0).toInt := by rw [(f28 5 (by decide)).1]
  have s30 : (h22.1 5 10).toInt = (h11.1 5 10).toInt := by rw [(f28 5 (by decide)).1]
  have b31 : (0 : Int) ≤ (h22.1 1 1).toInt ∧ (h22.1 1 1).toInt ≤ 3 := hI.1 1 1
  show RUN d_X4_readFire 27 [(0, .inr (.inr (.inl 1))), (1, .inr (.inr (.inl 4)))] [.inl x26, .inl 7, .inr (.inr (.inl 5))] h22 _
  refine K_iast (a := 7) (lo := (-2147483648)) (hi' := 2147483647) rfl sh_5 (by decide) (by decide) hI (by decide) rfl (i_rng _) fr (by decide) (fun h32 g33 hI fr => ?_)
  have s34 : (h32.1 5 0).toInt = (h22.1 5 0).toInt := by rw [g33, show (7 : Int32).toNatClampNeg = 7 from rfl, wI_at (by decide)]
  have s35 : (h32.1 5 10).toInt = (h22.1 5 10).toInt := by rw [g33, show (7 : Int32).toNatClampNeg = 7 from rfl, wI_at (by decide)]
  have s36 : (h32.1 1 1).toInt = (h22.1 1 1).toInt := by rw [g33, wI_ne _ _ _ (by decide)]
  have s37 : (h32.1 5 7).toInt = x26.toInt := by rw [g33, show (7 : Int32).toNatClampNeg = 7 from rfl, wI_is]
  refine R_aload_n (k := 0) rfl rfl rfl ?_
  refine R_ldc_s (i := 13) rfl kt_4_119 ?_
  refine R_callV (v := .inr (.inr (.inl 1))) (As := [.inr (.inr (.inr 14))]) (rest := []) rfl mt_4_i81 pp_X4_takeWord (by decide) rfl rfl rfl (Nat.le_of_ble_eq_true rfl) (Nat.le_of_ble_eq_true rfl) ((k_X4_takeWord_2 h32 hI).mono (fun r38 h39 p40 => ?_))
  obtain ⟨hJ, fj, ⟨xq41, -⟩, rfl⟩ := p40
  have f42 := fj
  have fr := fr.trans fj (by decide)
  have hI := hJ
  have s43 : (h39.1 5 0).toInt = (h32.1 5 0).toInt := by rw [(f42 5 (by decide)).1]
  have s44 : (h39.1 5 10).toInt = (h32.1 5 10).toInt := by rw [(f42 5 (by decide)).1]
  have s45 : (h39.1 5 7).toInt = (h32.1 5 7).toInt := by rw [(f42 5 (by decide)).1]
  have b46 : (0 : Int) ≤ (h39.1 1 1).toInt ∧ (h39.1 1 1).toInt ≤ 3 := hI.1 1 1
  show RUN d_X4_readFire 34 [(0, .inr (.inr (.inl 1))), (1, .inr (.inr (.inl 4)))] [] h39 _
  refine R_aload_n (k := 1) rfl rfl rfl ?_
  refine R_getf_r (j := 0) rfl ft_4_49 sh_4 rfl ?_
  refine R_bipush 8 rfl rfl ?_
  refine R_aload_n (k := 0) rfl rfl rfl ?_
  refine R_iconst 0 rfl rfl ?_
  refine R_bipush 9 rfl rfl ?_
  refine R_iconst (-1) rfl rfl ?_
  have k47 : (0 : Int32).toInt = 0 := by decide
  have k48 : (9 : Int32).toInt = 9 := by decide
  have k49 : ((-1) : Int32).toInt = (-1) := by decide
  refine R_callV (v := .inr (.inr (.inl 1))) (As := [.inl 0, .inl 9, .inl (-1)]) (rest := [.inl 8, .inr (.inr (.inl 5))]) rfl mt_4_i87 pp_X4_takeNumber (by decide) rfl rfl rfl (Nat.le_of_ble_eq_true rfl) (Nat.le_of_ble_eq_true rfl) ((k_X4_takeNumber h39 hI (0 : Int32) (9 : Int32) ((-1) : Int32) (by decide) (by decide)).mono (fun r50 h51 p52 => ?_))
  obtain ⟨hJ, fj, ⟨xq53, -⟩, x55, rfl, q56, zq54, -⟩ := p52
  have f57 := fj
  have fr := fr.trans fj (by decide)
  have hI := hJ
  have s58 : (h51.1 5 0).toInt = (h39.1 5 0).toInt := by rw [(f57 5 (by decide)).1]
  have s59 : (h51.1 5 10).toInt = (h39.1 5 10).toInt := by rw [(f57 5 (by decide)).1]
  have s60 : (h51.1 5 7).toInt = (h39.1 5 7).toInt := by rw [(f57 5 (by decide)).1]
  have b61 : (0 : Int) ≤ (h51.1 1 1).toInt ∧ (h51.1 1 1).toInt ≤ 3 := hI.1 1 1
  show RUN d_X4_readFire 48 [(0, .inr (.inr (.inl 1))), (1, .inr (.inr (.inl 4)))] [.inl x55, .inl 8, .inr (.inr (.inl 5))] h51 _
  refine K_iast (a := 8) (lo := (-2147483648)) (hi' := 2147483647) rfl sh_5 (by decide) (by decide) hI (by decide) rfl (i_rng _) fr (by decide) (fun h62 g63 hI fr => ?_)
  have s64 : (h62.1 5 0).toInt = (h51.1 5 0).toInt := by rw [g63, show (8 : Int32).toNatClampNeg = 8 from rfl, wI_at (by decide)]
  have s65 : (h62.1 5 10).toInt = (h51.1 5 10).toInt := by rw [g63, show (8 : Int32).toNatClampNeg = 8 from rfl, wI_at (by decide)]
  have s66 : (h62.1 5 7).toInt = (h51.1 5 7).toInt := by rw [g63, show (8 : Int32).toNatClampNeg = 8 from rfl, wI_at (by decide)]
  have s67 : (h62.1 1 1).toInt = (h51.1 1 1).toInt := by rw [g63, wI_ne _ _ _ (by decide)]
  have s68 : (h62.1 5 8).toInt = x55.toInt := by rw [g63, show (8 : Int32).toNatClampNeg = 8 from rfl, wI_is]
  exact R_vret rfl rfl ⟨hI, fr, ⟨by omega, by omega, by omega, trivial⟩, rfl⟩
abbrev q_X4_takeSign (h : PH)  : Option PV → PH → Prop := fun r h' => INV h' ∧ FR [1] h h' ∧ (((h.1 1 1).toInt ≤ (h'.1 1 1).toInt) ∧ True) ∧ r = none
set_option maxHeartbeats 4000000 in
set_option maxRecDepth 100000 in
theorem k_X4_takeSign (h : PH) (hI : INV h)  : CALL d_X4_takeSign [.inr (.inr (.inl 1))] h (q_X4_takeSign h) := by
  show RUN d_X4_takeSign 0 [(0, .inr (.inr (.inl 1)))] [] h _
  have fr : FR [1] h h := FR.rf _ _
  have b1 : (0 : Int) ≤ (h.1 1 1).toInt ∧ (h.1 1 1).toInt ≤ 3 := hI.1 1 1
  refine R_aload_n (k := 0) rfl rfl rfl ?_
  refine R_getf_i (j := 3) rfl ft_4_25 sh_1 rfl ?_
  refine R_iconst 2 rfl rfl ?_
  refine N_icmp_ne (a := (h.1 1 3).toInt) (b := 2) 15 rfl rfl rfl (by decide) (fun c2 => ?_) (fun c2 => ?_)
  · refine R_aload_n (k := 0) rfl rfl rfl ?_
    refine R_iconst 1 rfl rfl ?_
    have k3 : (1 : Int32).toInt = 1 := by decide
    refine R_callV (v := .inr (.inr (.inl 1))) (As := [.inl 1]) (rest := []) rfl mt_4_i99 pp_X4_refuse (by decide) rfl rfl rfl (Nat.le_of_ble_eq_true rfl) (Nat.le_of_ble_eq_true rfl) ((k_X4_refuse h hI (1 : Int32) (by decide)).mono (fun r4 h5 p6 => ?_))
    obtain ⟨hJ, fj, ⟨kp7, kp8, xq9, xq10, -⟩, rfl⟩ := p6
    have f11 := fj
    have fr := fr.trans fj (by decide)
    have hI := hJ
    have b12 : (0 : Int) ≤ (h5.1 1 1).toInt ∧ (h5.1 1 1).toInt ≤ 3 := hI.1 1 1
    show RUN d_X4_takeSign 20 [(0, .inr (.inr (.inl 1)))] [] h5 _
    exact R_vret rfl rfl ⟨hI, fr, ⟨by omega, trivial⟩, rfl⟩
  · refine R_aload_n (k := 0) rfl rfl rfl ?_
    refine R_callV (v := .inr (.inr (.inl 1))) (As := []) (rest := []) rfl mt_4_i42 pp_X4_nextToken (by decide) rfl rfl rfl (Nat.le_of_ble_eq_true rfl) (Nat.le_of_ble_eq_true rfl) ((k_X4_nextToken h hI).mono (fun r13 h14 p15 => ?_))
    obtain ⟨hJ, fj, ⟨kp16, kp17, -⟩, rfl⟩ := p15
    have f18 := fj
    have fr := fr.trans fj (by decide)
    have hI := hJ
    show RUN d_X4_takeSign 12 [(0, .inr (.inr (.inl 1)))] [] h14 _
    refine R_goto 20 rfl rfl ?_
    exact R_vret rfl rfl ⟨hI, fr, ⟨by omega, trivial⟩, rfl⟩
abbrev q_X4_readLine (h : PH)  : Option PV → PH → Prop := fun r h' => INV h' ∧ FR [1, 5, 6, 7, 8, 9, 10, 11, 12] h h' ∧ (((h.1 1 1).toInt ≤ (h'.1 1 1).toInt) ∧ ((h'.1 1 1).toInt = 0 → ((h.1 5 10).toInt = 0 ∧ 1 ≤ (h'.1 5 0).toInt ∧ (h'.1 5 0).toInt ≤ 60) ∨ (¬ (h.1 5 10).toInt = 0 ∧ (h'.1 5 0).toInt = (h.1 5 0).toInt)) ∧ True) ∧ r = none
set_option maxHeartbeats 4000000 in
set_option maxRecDepth 100000 in
theorem k_X4_readLine (h : PH) (hI : INV h)  : CALL d_X4_readLine [.inr (.inr (.inl 1)), .inr (.inr (.inl 4))] h (q_X4_readLine h) := by
  show RUN d_X4_readLine 0 [(0, .inr (.inr (.inl 1))), (1, .inr (.inr (.inl 4)))] [] h _
  have fr : FR [1, 5, 6, 7, 8, 9, 10, 11, 12] h h := FR.rf _ _
  have b1 : (0 : Int) ≤ (h.1 1 1).toInt ∧ (h.1 1 1).toInt ≤ 3 := hI.1 1 1
  refine R_aload_n (k := 1) rfl rfl rfl ?_
  refine R_getf_r (j := 0) rfl ft_4_49 sh_4 rfl ?_
  refine R_bipush 10 rfl rfl ?_
  refine R_iald rfl sh_5 (by decide) ?_
  show RUN d_X4_readLine 7 [(0, .inr (.inr (.inl 1))), (1, .inr (.inr (.inl 4)))] [.inl (h.1 5 10)] h _
  refine N_if_ne (a := (h.1 5 10).toInt) 18 rfl rfl rfl (fun c2 => ?_) (fun c2 => ?_)
  · refine R_aload_n (k := 0) rfl rfl rfl ?_
    refine R_ldc_s (i := 6) rfl kt_4_56 ?_
    refine R_callV (v := .inr (.inr (.inl 1))) (As := [.inr (.inr (.inr 7))]) (rest := []) rfl mt_4_i58 pp_X4_isWord (by decide) rfl rfl rfl (Nat.le_of_ble_eq_true rfl) (Nat.le_of_ble_eq_true rfl) ((k_X4_isWord h hI).mono (fun r3 h4 p5 => ?_))
    obtain ⟨rfl, x6, rfl, q7 | q7 | q7⟩ := p5
    · show RUN d_X4_readLine 24 [(0, .inr (.inr (.inl 1))), (1, .inr (.inr (.inl 4)))] [.inl x6] h _
      refine N_if_eq (a := x6.toInt) 35 rfl rfl rfl (fun c8 => ?_) (fun c8 => ?_)
      · refine R_aload_n (k := 0) rfl rfl rfl ?_
        refine R_ldc_s (i := 9) rfl kt_4_65 ?_
        refine R_callV (v := .inr (.inr (.inl 1))) (As := [.inr (.inr (.inr 10))]) (rest := []) rfl mt_4_i58 pp_X4_isWord (by decide) rfl rfl rfl (Nat.le_of_ble_eq_true rfl) (Nat.le_of_ble_eq_true rfl) ((k_X4_isWord_1 h hI).mono (fun r9 h10 p11 => ?_))
        obtain ⟨rfl, x12, rfl, q13 | q13 | q13⟩ := p11
        · show RUN d_X4_readLine 41 [(0, .inr (.inr (.inl 1))), (1, .inr (.inr (.inl 4)))] [.inl x12] h _
          refine N_if_eq (a := x12.toInt) 55 rfl rfl rfl (fun c14 => ?_) (fun c14 => ?_)
          · refine R_aload_n (k := 0) rfl rfl rfl ?_
            refine R_ldc_s (i := 10) rfl kt_4_71 ?_
            refine R_callV (v := .inr (.inr (.inl 1))) (As := [.inr (.inr (.inr 11))]) (rest := []) rfl mt_4_i58 pp_X4_isWord (by decide) rfl rfl rfl (Nat.le_of_ble_eq_true rfl) (Nat.le_of_ble_eq_true rfl) ((k_X4_isWord_2 h hI).mono (fun r15 h16 p17 => ?_))
            obtain ⟨rfl, x18, rfl, q19 | q19 | q19⟩ := p17
            · show RUN d_X4_readLine 61 [(0, .inr (.inr (.inl 1))), (1, .inr (.inr (.inl 4)))] [.inl x18] h _
              refine N_if_eq (a := x18.toInt) 75 rfl rfl rfl (fun c20 => ?_) (fun c20 => ?_)
              · refine R_aload_n (k := 0) rfl rfl rfl ?_
                refine R_aload_n (k := 1) rfl rfl rfl ?_
                refine R_callV (v := .inr (.inr (.inl 1))) (As := [.inr (.inr (.inl 4))]) (rest := []) rfl mt_4_i73 pp_X4_readFire (by decide) rfl rfl rfl (Nat.le_of_ble_eq_true rfl) (Nat.le_of_ble_eq_true rfl) ((k_X4_readFire h hI).mono (fun r21 h22 p23 => ?_))
                obtain ⟨hJ, fj, ⟨kp24, kp25, xq26, -⟩, rfl⟩ := p23
                have f27 := fj
                have fr := fr.trans fj (by decide)
                have hI := hJ
                have b28 : (0 : Int) ≤ (h22.1 1 1).toInt ∧ (h22.1 1 1).toInt ≤ 3 := hI.1 1 1
                show RUN d_X4_readLine 80 [(0, .inr (.inr (.inl 1))), (1, .inr (.inr (.inl 4)))] [] h22 _
                refine R_aload_n (k := 0) rfl rfl rfl ?_
                refine R_callV (v := .inr (.inr (.inl 1))) (As := []) (rest := []) rfl mt_4_i76 pp_X4_takeSign (by decide) rfl rfl rfl (Nat.le_of_ble_eq_true rfl) (Nat.le_of_ble_eq_true rfl) ((k_X4_takeSign h22 hI).mono (fun r29 h30 p31 => ?_))
                obtain ⟨hJ, fj, ⟨xq32, -⟩, rfl⟩ := p31
                have f33 := fj
                have fr := fr.trans fj (by decide)
                have hI := hJ
                have s34 : (h30.1 5 0).toInt = (h22.1 5 0).toInt := by rw [(f33 5 (by decide)).1]
                have s35 : (h30.1 5 10).toInt = (h22.1 5 10).toInt := by rw [(f33 5 (by decide)).1]
                have b36 : (0 : Int) ≤ (h30.1 1 1).toInt ∧ (h30.1 1 1).toInt ≤ 3 := hI.1 1 1
                show RUN d_X4_readLine 84 [(0, .inr (.inr (.inl 1))), (1, .inr (.inr (.inl 4)))] [] h30 _
                refine R_aload_n (k := 1) rfl rfl rfl ?_
                refine R_getf_r (j := 0) rfl ft_4_49 sh_4 rfl ?_
                refine R_bipush 10 rfl rfl ?_
                refine R_dup2 rfl ?_
                refine R_iald rfl sh_5 (by decide) ?_
                show RUN d_X4_readLine 92 [(0, .inr (.inr (.inl 1))), (1, .inr (.inr (.inl 4)))] [.inl (h30.1 5 10), .inl 10, .inr (.inr (.inl 5))] h30 _
                refine R_iconst 1 rfl rfl ?_
                have b37 := i_rng (h30.1 5 10)
                refine R_iadd rfl ?_
                refine N_any (fun x38 => ?_)
                refine K_iast (a := 10) (lo := (-2147483648)) (hi' := 2147483647) rfl sh_5 (by decide) (by decide) hI (by decide) rfl (i_rng _) fr (by decide) (fun h39 g40 hI fr => ?_)
                have s41 : (h39.1 5 0).toInt = (h30.1 5 0).toInt := by rw [g40, show (10 : Int32).toNatClampNeg = 10 from rfl, wI_at (by decide)]
                have s42 : (h39.1 1 1).toInt = (h30.1 1 1).toInt := by rw [g40, wI_ne _ _ _ (by decide)]
                have s43 : (h39.1 5 10).toInt = x38.toInt := by rw [g40, show (10 : Int32).toNatClampNeg = 10 from rfl, wI_is]
                exact R_vret rfl rfl ⟨hI, fr, ⟨by omega, by omega, trivial⟩, rfl⟩
              · exfalso; omega
            · show RUN d_X4_readLine 61 [(0, .inr (.inr (.inl 1))), (1, .inr (.inr (.inl 4)))] [.inl x18] h _
              refine N_if_eq (a := x18.toInt) 75 rfl rfl rfl (fun c44 => ?_) (fun c44 => ?_)
              · exfalso; omega
              · refine R_aload_n (k := 0) rfl rfl rfl ?_
                refine R_aload_n (k := 1) rfl rfl rfl ?_
                refine R_ldc_s (i := 10) rfl kt_4_71 ?_
                refine R_iconst 0 rfl rfl ?_
                have k45 : (0 : Int32).toInt = 0 := by decide
                refine R_callV (v := .inr (.inr (.inl 1))) (As := [.inr (.inr (.inl 4)), .inr (.inr (.inr 11)), .inl 0]) (rest := []) rfl mt_4_i67 pp_X4_readPair (by decide) rfl rfl rfl (Nat.le_of_ble_eq_true rfl) (Nat.le_of_ble_eq_true rfl) ((k_X4_readPair h hI (0 : Int32) (by decide)).mono (fun r46 h47 p48 => ?_))
                obtain ⟨hJ, fj, ⟨kp49, kp50, xq51, -⟩, rfl⟩ := p48
                have f52 := fj
                have fr := fr.trans fj (by decide)
                have hI := hJ
                have b53 : (0 : Int) ≤ (h47.1 1 1).toInt ∧ (h47.1 1 1).toInt ≤ 3 := hI.1 1 1
                show RUN d_X4_readLine 72 [(0, .inr (.inr (.inl 1))), (1, .inr (.inr (.inl 4)))] [] h47 _
                refine R_goto 80 rfl rfl ?_
                refine R_aload_n (k := 0) rfl rfl rfl ?_
                refine R_callV (v := .inr (.inr (.inl 1))) (As := []) (rest := []) rfl mt_4_i76 pp_X4_takeSign (by decide) rfl rfl rfl (Nat.le_of_ble_eq_true rfl) (Nat.le_of_ble_eq_true rfl) ((k_X4_takeSign h47 hI).mono (fun r54 h55 p56 => ?_))
                obtain ⟨hJ, fj, ⟨xq57, -⟩, rfl⟩ := p56
                have f58 := fj
                have fr := fr.trans fj (by decide)
                have hI := hJ
                have s59 : (h55.1 5 0).toInt = (h47.1 5 0).toInt := by rw [(f58 5 (by decide)).1]
                have s60 : (h55.1 5 10).toInt = (h47.1 5 10).toInt := by rw [(f58 5 (by decide)).1]
                have b61 : (0 : Int) ≤ (h55.1 1 1).toInt ∧ (h55.1 1 1).toInt ≤ 3 := hI.1 1 1
                show RUN d_X4_readLine 84 [(0, .inr (.inr (.inl 1))), (1, .inr (.inr (.inl 4)))] [] h55 _
                refine R_aload_n (k := 1) rfl rfl rfl ?_
                refine R_getf_r (j := 0) rfl ft_4_49 sh_4 rfl ?_
                refine R_bipush 10 rfl rfl ?_
                refine R_dup2 rfl ?_
                refine R_iald rfl sh_5 (by decide) ?_
                show RUN d_X4_readLine 92 [(0, .inr (.inr (.inl 1))), (1, .inr (.inr (.inl 4)))] [.inl (h55.1 5 10), .inl 10, .inr (.inr (.inl 5))] h55 _
                refine R_iconst 1 rfl rfl ?_
                have b62 := i_rng (h55.1 5 10)
                refine R_iadd rfl ?_
                refine N_any (fun x63 => ?_)
                refine K_iast (a := 10) (lo := (-2147483648)) (hi' := 2147483647) rfl sh_5 (by decide) (by decide) hI (by decide) rfl (i_rng _) fr (by decide) (fun h64 g65 hI fr => ?_)
                have s66 : (h64.1 5 0).toInt = (h55.1 5 0).toInt := by rw [g65, show (10 : Int32).toNatClampNeg = 10 from rfl, wI_at (by decide)]
                have s67 : (h64.1 1 1).toInt = (h55.1 1 1).toInt := by rw [g65, wI_ne _ _ _ (by decide)]
                have s68 : (h64.1 5 10).toInt = x63.toInt := by rw [g65, show (10 : Int32).toNatClampNeg = 10 from rfl, wI_is]
                exact R_vret rfl rfl ⟨hI, fr, ⟨by omega, by omega, trivial⟩, rfl⟩
            · show RUN d_X4_readLine 61 [(0, .inr (.inr (.inl 1))), (1, .inr (.inr (.inl 4)))] [.inl x18] h _
              refine N_if_eq (a := x18.toInt) 75 rfl rfl rfl (fun c69 => ?_) (fun c69 => ?_)
              · refine R_aload_n (k := 0) rfl rfl rfl ?_
                refine R_aload_n (k := 1) rfl rfl rfl ?_
                refine R_callV (v := .inr (.inr (.inl 1))) (As := [.inr (.inr (.inl 4))]) (rest := []) rfl mt_4_i73 pp_X4_readFire (by decide) rfl rfl rfl (Nat.le_of_ble_eq_true rfl) (Nat.le_of_ble_eq_true rfl) ((k_X4_readFire h hI).mono (fun r70 h71 p72 => ?_))
                obtain ⟨hJ, fj, ⟨kp73, kp74, xq75, -⟩, rfl⟩ := p72
                have f76 := fj
                have fr := fr.trans fj (by decide)
                have hI := hJ
                have b77 : (0 : Int) ≤ (h71.1 1 1).toInt ∧ (h71.1 1 1).toInt ≤ 3 := hI.1 1 1
                show RUN d_X4_readLine 80 [(0, .inr (.inr (.inl 1))), (1, .inr (.inr (.inl 4)))] [] h71 _
                refine R_aload_n (k := 0) rfl rfl rfl ?_
                refine R_callV (v := .inr (.inr (.inl 1))) (As := []) (rest := []) rfl mt_4_i76 pp_X4_takeSign (by decide) rfl rfl rfl (Nat.le_of_ble_eq_true rfl) (Nat.le_of_ble_eq_true rfl) ((k_X4_takeSign h71 hI).mono (fun r78 h79 p80 => ?_))
                obtain ⟨hJ, fj, ⟨xq81, -⟩, rfl⟩ := p80
                have f82 := fj
                have fr := fr.trans fj (by decide)
                have hI := hJ
                have s83 : (h79.1 5 0).toInt = (h71.1 5 0).toInt := by rw [(f82 5 (by decide)).1]
                have s84 : (h79.1 5 10).toInt = (h71.1 5 10).toInt := by rw [(f82 5 (by decide)).1]
                have b85 : (0 : Int) ≤ (h79.1 1 1).toInt ∧ (h79.1 1 1).toInt ≤ 3 := hI.1 1 1
                show RUN d_X4_readLine 84 [(0, .inr (.inr (.inl 1))), (1, .inr (.inr (.inl 4)))] [] h79 _
                refine R_aload_n (k := 1) rfl rfl rfl ?_
                refine R_getf_r (j := 0) rfl ft_4_49 sh_4 rfl ?_
                refine R_bipush 10 rfl rfl ?_
                refine R_dup2 rfl ?_
                refine R_iald rfl sh_5 (by decide) ?_
                show RUN d_X4_readLine 92 [(0, .inr (.inr (.inl 1))), (1, .inr (.inr (.inl 4)))] [.inl (h79.1 5 10), .inl 10, .inr (.inr (.inl 5))] h79 _
                refine R_iconst 1 rfl rfl ?_
                have b86 := i_rng (h79.1 5 10)
                refine R_iadd rfl ?_
                refine N_any (fun x87 => ?_)
                refine K_iast (a := 10) (lo := (-2147483648)) (hi' := 2147483647) rfl sh_5 (by decide) (by decide) hI (by decide) rfl (i_rng _) fr (by decide) (fun h88 g89 hI fr => ?_)
                have s90 : (h88.1 5 0).toInt = (h79.1 5 0).toInt := by rw [g89, show (10 : Int32).toNatClampNeg = 10 from rfl, wI_at (by decide)]
                have s91 : (h88.1 1 1).toInt = (h79.1 1 1).toInt := by rw [g89, wI_ne _ _ _ (by decide)]
                have s92 : (h88.1 5 10).toInt = x87.toInt := by rw [g89, show (10 : Int32).toNatClampNeg = 10 from rfl, wI_is]
                exact R_vret rfl rfl ⟨hI, fr, ⟨by omega, by omega, trivial⟩, rfl⟩
              · exfalso; omega
          · exfalso; omega
        · show RUN d_X4_readLine 41 [(0, .inr (.inr (.inl 1))), (1, .inr (.inr (.inl 4)))] [.inl x12] h _
          refine N_if_eq (a := x12.toInt) 55 rfl rfl rfl (fun c93 => ?_) (fun c93 => ?_)
          · exfalso; omega
          · refine R_aload_n (k := 0) rfl rfl rfl ?_
            refine R_aload_n (k := 1) rfl rfl rfl ?_
            refine R_ldc_s (i := 9) rfl kt_4_65 ?_
            refine R_iconst 1 rfl rfl ?_
            have k94 : (1 : Int32).toInt = 1 := by decide
            refine R_callV (v := .inr (.inr (.inl 1))) (As := [.inr (.inr (.inl 4)), .inr (.inr (.inr 10)), .inl 1]) (rest := []) rfl mt_4_i67 pp_X4_readPair (by decide) rfl rfl rfl (Nat.le_of_ble_eq_true rfl) (Nat.le_of_ble_eq_true rfl) ((k_X4_readPair_1 h hI (1 : Int32) (by decide)).mono (fun r95 h96 p97 => ?_))
            obtain ⟨hJ, fj, ⟨kp98, kp99, xq100, -⟩, rfl⟩ := p97
            have f101 := fj
            have fr := fr.trans fj (by decide)
            have hI := hJ
            have b102 : (0 : Int) ≤ (h96.1 1 1).toInt ∧ (h96.1 1 1).toInt ≤ 3 := hI.1 1 1
            show RUN d_X4_readLine 52 [(0, .inr (.inr (.inl 1))), (1, .inr (.inr (.inl 4)))] [] h96 _
            refine R_goto 80 rfl rfl ?_
            refine R_aload_n (k := 0) rfl rfl rfl ?_
            refine R_callV (v := .inr (.inr (.inl 1))) (As := []) (rest := []) rfl mt_4_i76 pp_X4_takeSign (by decide) rfl rfl rfl (Nat.le_of_ble_eq_true rfl) (Nat.le_of_ble_eq_true rfl) ((k_X4_takeSign h96 hI).mono (fun r103 h104 p105 => ?_))
            obtain ⟨hJ, fj, ⟨xq106, -⟩, rfl⟩ := p105
            have f107 := fj
            have fr := fr.trans fj (by decide)
            have hI := hJ
            have s108 : (h104.1 5 0).toInt = (h96.1 5 0).toInt := by rw [(f107 5 (by decide)).1]
            have s109 : (h104.1 5 10).toInt = (h96.1 5 10).toInt := by rw [(f107 5 (by decide)).1]
            have b110 : (0 : Int) ≤ (h104.1 1 1).toInt ∧ (h104.1 1 1).toInt ≤ 3 := hI.1 1 1
            show RUN d_X4_readLine 84 [(0, .inr (.inr (.inl 1))), (1, .inr (.inr (.inl 4)))] [] h104 _
            refine R_aload_n (k := 1) rfl rfl rfl ?_
            refine R_getf_r (j := 0) rfl ft_4_49 sh_4 rfl ?_
            refine R_bipush 10 rfl rfl ?_
            refine R_dup2 rfl ?_
            refine R_iald rfl sh_5 (by decide) ?_
            show RUN d_X4_readLine 92 [(0, .inr (.inr (.inl 1))), (1, .inr (.inr (.inl 4)))] [.inl (h104.1 5 10), .inl 10, .inr (.inr (.inl 5))] h104 _
            refine R_iconst 1 rfl rfl ?_
            have b111 := i_rng (h104.1 5 10)
            refine R_iadd rfl ?_
            refine N_any (fun x112 => ?_)
            refine K_iast (a := 10) (lo := (-2147483648)) (hi' := 2147483647) rfl sh_5 (by decide) (by decide) hI (by decide) rfl (i_rng _) fr (by decide) (fun h113 g114 hI fr => ?_)
            have s115 : (h113.1 5 0).toInt = (h104.1 5 0).toInt := by rw [g114, show (10 : Int32).toNatClampNeg = 10 from rfl, wI_at (by decide)]
            have s116 : (h113.1 1 1).toInt = (h104.1 1 1).toInt := by rw [g114, wI_ne _ _ _ (by decide)]
            have s117 : (h113.1 5 10).toInt = x112.toInt := by rw [g114, show (10 : Int32).toNatClampNeg = 10 from rfl, wI_is]
            exact R_vret rfl rfl ⟨hI, fr, ⟨by omega, by omega, trivial⟩, rfl⟩
        · show RUN d_X4_readLine 41 [(0, .inr (.inr (.inl 1))), (1, .inr (.inr (.inl 4)))] [.inl x12] h _
          refine N_if_eq (a := x12.toInt) 55 rfl rfl rfl (fun c118 => ?_) (fun c118 => ?_)
          · refine R_aload_n (k := 0) rfl rfl rfl ?_
            refine R_ldc_s (i := 10) rfl kt_4_71 ?_
            refine R_callV (v := .inr (.inr (.inl 1))) (As := [.inr (.inr (.inr 11))]) (rest := []) rfl mt_4_i58 pp_X4_isWord (by decide) rfl rfl rfl (Nat.le_of_ble_eq_true rfl) (Nat.le_of_ble_eq_true rfl) ((k_X4_isWord_2 h hI).mono (fun r119 h120 p121 => ?_))
            obtain ⟨rfl, x122, rfl, q123 | q123 | q123⟩ := p121
            · show RUN d_X4_readLine 61 [(0, .inr (.inr (.inl 1))), (1, .inr (.inr (.inl 4)))] [.inl x122] h _
              refine N_if_eq (a := x122.toInt) 75 rfl rfl rfl (fun c124 => ?_) (fun c124 => ?_)
              · refine R_aload_n (k := 0) rfl rfl rfl ?_
                refine R_aload_n (k := 1) rfl rfl rfl ?_
                refine R_callV (v := .inr (.inr (.inl 1))) (As := [.inr (.inr (.inl 4))]) (rest := []) rfl mt_4_i73 pp_X4_readFire (by decide) rfl rfl rfl (Nat.le_of_ble_eq_true rfl) (Nat.le_of_ble_eq_true rfl) ((k_X4_readFire h hI).mono (fun r125 h126 p127 => ?_))
                obtain ⟨hJ, fj, ⟨kp128, kp129, xq130, -⟩, rfl⟩ := p127
                have f131 := fj
                have fr := fr.trans fj (by decide)
                have hI := hJ
                have b132 : (0 : Int) ≤ (h126.1 1 1).toInt ∧ (h126.1 1 1).toInt ≤ 3 := hI.1 1 1
                show RUN d_X4_readLine 80 [(0, .inr (.inr (.inl 1))), (1, .inr (.inr (.inl 4)))] [] h126 _
                refine R_aload_n (k := 0) rfl rfl rfl ?_
                refine R_callV (v := .inr (.inr (.inl 1))) (As := []) (rest := []) rfl mt_4_i76 pp_X4_takeSign (by decide) rfl rfl rfl (Nat.le_of_ble_eq_true rfl) (Nat.le_of_ble_eq_true rfl) ((k_X4_takeSign h126 hI).mono (fun r133 h134 p135 => ?_))
                obtain ⟨hJ, fj, ⟨xq136, -⟩, rfl⟩ := p135
                have f137 := fj
                have fr := fr.trans fj (by decide)
                have hI := hJ
                have s138 : (h134.1 5 0).toInt = (h126.1 5 0).toInt := by rw [(f137 5 (by decide)).1]
                have s139 : (h134.1 5 10).toInt = (h126.1 5 10).toInt := by rw [(f137 5 (by decide)).1]
                have b140 : (0 : Int) ≤ (h134.1 1 1).toInt ∧ (h134.1 1 1).toInt ≤ 3 := hI.1 1 1
                show RUN d_X4_readLine 84 [(0, .inr (.inr (.inl 1))), (1, .inr (.inr (.inl 4)))] [] h134 _
                refine R_aload_n (k := 1) rfl rfl rfl ?_
                refine R_getf_r (j := 0) rfl ft_4_49 sh_4 rfl ?_
                refine R_bipush 10 rfl rfl ?_
                refine R_dup2 rfl ?_
                refine R_iald rfl sh_5 (by decide) ?_
                show RUN d_X4_readLine 92 [(0, .inr (.inr (.inl 1))), (1, .inr (.inr (.inl 4)))] [.inl (h134.1 5 10), .inl 10, .inr (.inr (.inl 5))] h134 _
                refine R_iconst 1 rfl rfl ?_
                have b141 := i_rng (h134.1 5 10)
                refine R_iadd rfl ?_
                refine N_any (fun x142 => ?_)
                refine K_iast (a := 10) (lo := (-2147483648)) (hi' := 2147483647) rfl sh_5 (by decide) (by decide) hI (by decide) rfl (i_rng _) fr (by decide) (fun h143 g144 hI fr => ?_)
                have s145 : (h143.1 5 0).toInt = (h134.1 5 0).toInt := by rw [g144, show (10 : Int32).toNatClampNeg = 10 from rfl, wI_at (by decide)]
                have s146 : (h143.1 1 1).toInt = (h134.1 1 1).toInt := by rw [g144, wI_ne _ _ _ (by decide)]
                have s147 : (h143.1 5 10).toInt = x142.toInt := by rw [g144, show (10 : Int32).toNatClampNeg = 10 from rfl, wI_is]
                exact R_vret rfl rfl ⟨hI, fr, ⟨by omega, by omega, trivial⟩, rfl⟩
              · exfalso; omega
            · show RUN d_X4_readLine 61 [(0, .inr (.inr (.inl 1))), (1, .inr (.inr (.inl 4)))] [.inl x122] h _
              refine N_if_eq (a := x122.toInt) 75 rfl rfl rfl (fun c148 => ?_) (fun c148 => ?_)
              · exfalso; omega
              · refine R_aload_n (k := 0) rfl rfl rfl ?_
                refine R_aload_n (k := 1) rfl rfl rfl ?_
                refine R_ldc_s (i := 10) rfl kt_4_71 ?_
                refine R_iconst 0 rfl rfl ?_
                have k149 : (0 : Int32).toInt = 0 := by decide
                refine R_callV (v := .inr (.inr (.inl 1))) (As := [.inr (.inr (.inl 4)), .inr (.inr (.inr 11)), .inl 0]) (rest := []) rfl mt_4_i67 pp_X4_readPair (by decide) rfl rfl rfl (Nat.le_of_ble_eq_true rfl) (Nat.le_of_ble_eq_true rfl) ((k_X4_readPair h hI (0 : Int32) (by decide)).mono (fun r150 h151 p152 => ?_))
                obtain ⟨hJ, fj, ⟨kp153, kp154, xq155, -⟩, rfl⟩ := p152
                have f156 := fj
                have fr := fr.trans fj (by decide)
                have hI := hJ
                have b157 : (0 : Int) ≤ (h151.1 1 1).toInt ∧ (h151.1 1 1).toInt ≤ 3 := hI.1 1 1
                show RUN d_X4_readLine 72 [(0, .inr (.inr (.inl 1))), (1, .inr (.inr (.inl 4)))] [] h151 _
                refine R_goto 80 rfl rfl ?_
                refine R_aload_n (k := 0) rfl rfl rfl ?_
                refine R_callV (v := .inr (.inr (.inl 1))) (As := []) (rest := []) rfl mt_4_i76 pp_X4_takeSign (by decide) rfl rfl rfl (Nat.le_of_ble_eq_true rfl) (Nat.le_of_ble_eq_true rfl) ((k_X4_takeSign h151 hI).mono (fun r158 h159 p160 => ?_))
                obtain ⟨hJ, fj, ⟨xq161, -⟩, rfl⟩ := p160
                have f162 := fj
                have fr := fr.trans fj (by decide)
                have hI := hJ
                have s163 : (h159.1 5 0).toInt = (h151.1 5 0).toInt := by rw [(f162 5 (by decide)).1]
                have s164 : (h159.1 5 10).toInt = (h151.1 5 10).toInt := by rw [(f162 5 (by decide)).1]
                have b165 : (0 : Int) ≤ (h159.1 1 1).toInt ∧ (h159.1 1 1).toInt ≤ 3 := hI.1 1 1
                show RUN d_X4_readLine 84 [(0, .inr (.inr (.inl 1))), (1, .inr (.inr (.inl 4)))] [] h159 _
                refine R_aload_n (k := 1) rfl rfl rfl ?_
                refine R_getf_r (j := 0) rfl ft_4_49 sh_4 rfl ?_
                refine R_bipush 10 rfl rfl ?_
                refine R_dup2 rfl ?_
                refine R_iald rfl sh_5 (by decide) ?_
                show RUN d_X4_readLine 92 [(0, .inr (.inr (.inl 1))), (1, .inr (.inr (.inl 4)))] [.inl (h159.1 5 10), .inl 10, .inr (.inr (.inl 5))] h159 _
                refine R_iconst 1 rfl rfl ?_
                have b166 := i_rng (h159.1 5 10)
                refine R_iadd rfl ?_
                refine N_any (fun x167 => ?_)
                refine K_iast (a := 10) (lo := (-2147483648)) (hi' := 2147483647) rfl sh_5 (by decide) (by decide) hI (by decide) rfl (i_rng _) fr (by decide) (fun h168 g169 hI fr => ?_)
                have s170 : (h168.1 5 0).toInt = (h159.1 5 0).toInt := by rw [g169, show (10 : Int32).toNatClampNeg = 10 from rfl, wI_at (by decide)]
                have s171 : (h168.1 1 1).toInt = (h159.1 1 1).toInt := by rw [g169, wI_ne _ _ _ (by decide)]
                have s172 : (h168.1 5 10).toInt = x167.toInt := by rw [g169, show (10 : Int32).toNatClampNeg = 10 from rfl, wI_is]
                exact R_vret rfl rfl ⟨hI, fr, ⟨by omega, by omega, trivial⟩, rfl⟩
            · show RUN d_X4_readLine 61 [(0, .inr (.inr (.inl 1))), (1, .inr (.inr (.inl 4)))] [.inl x122] h _
              refine N_if_eq (a := x122.toInt) 75 rfl rfl rfl (fun c173 => ?_) (fun c173 => ?_)
              · refine R_aload_n (k := 0) rfl rfl rfl ?_
                refine R_aload_n (k := 1) rfl rfl rfl ?_
                refine R_callV (v := .inr (.inr (.inl 1))) (As := [.inr (.inr (.inl 4))]) (rest := []) rfl mt_4_i73 pp_X4_readFire (by decide) rfl rfl rfl (Nat.le_of_ble_eq_true rfl) (Nat.le_of_ble_eq_true rfl) ((k_X4_readFire h hI).mono (fun r174 h175 p176 => ?_))
                obtain ⟨hJ, fj, ⟨kp177, kp178, xq179, -⟩, rfl⟩ := p176
                have f180 := fj
                have fr := fr.trans fj (by decide)
                have hI := hJ
                have b181 : (0 : Int) ≤ (h175.1 1 1).toInt ∧ (h175.1 1 1).toInt ≤ 3 := hI.1 1 1
                show RUN d_X4_readLine 80 [(0, .inr (.inr (.inl 1))), (1, .inr (.inr (.inl 4)))] [] h175 _
                refine R_aload_n (k := 0) rfl rfl rfl ?_
                refine R_callV (v := .inr (.inr (.inl 1))) (As := []) (rest := []) rfl mt_4_i76 pp_X4_takeSign (by decide) rfl rfl rfl (Nat.le_of_ble_eq_true rfl) (Nat.le_of_ble_eq_true rfl) ((k_X4_takeSign h175 hI).mono (fun r182 h183 p184 => ?_))
                obtain ⟨hJ, fj, ⟨xq185, -⟩, rfl⟩ := p184
                have f186 := fj
                have fr := fr.trans fj (by decide)
                have hI := hJ
                have s187 : (h183.1 5 0).toInt = (h175.1 5 0).toInt := by rw [(f186 5 (by decide)).1]
                have s188 : (h183.1 5 10).toInt = (h175.1 5 10).toInt := by rw [(f186 5 (by decide)).1]
                have b189 : (0 : Int) ≤ (h183.1 1 1).toInt ∧ (h183.1 1 1).toInt ≤ 3 := hI.1 1 1
                show RUN d_X4_readLine 84 [(0, .inr (.inr (.inl 1))), (1, .inr (.inr (.inl 4)))] [] h183 _
                refine R_aload_n (k := 1) rfl rfl rfl ?_
                refine R_getf_r (j := 0) rfl ft_4_49 sh_4 rfl ?_
                refine R_bipush 10 rfl rfl ?_
                refine R_dup2 rfl ?_
                refine R_iald rfl sh_5 (by decide) ?_
                show RUN d_X4_readLine 92 [(0, .inr (.inr (.inl 1))), (1, .inr (.inr (.inl 4)))] [.inl (h183.1 5 10), .inl 10, .inr (.inr (.inl 5))] h183 _
                refine R_iconst 1 rfl rfl ?_
                have b190 := i_rng (h183.1 5 10)
                refine R_iadd rfl ?_
                refine N_any (fun x191 => ?_)
                refine K_iast (a := 10) (lo := (-2147483648)) (hi' := 2147483647) rfl sh_5 (by decide) (by decide) hI (by decide) rfl (i_rng _) fr (by decide) (fun h192 g193 hI fr => ?_)
                have s194 : (h192.1 5 0).toInt = (h183.1 5 0).toInt := by rw [g193, show (10 : Int32).toNatClampNeg = 10 from rfl, wI_at (by decide)]
                have s195 : (h192.1 1 1).toInt = (h183.1 1 1).toInt := by rw [g193, wI_ne _ _ _ (by decide)]
                have s196 : (h192.1 5 10).toInt = x191.toInt := by rw [g193, show (10 : Int32).toNatClampNeg = 10 from rfl, wI_is]
                exact R_vret rfl rfl ⟨hI, fr, ⟨by omega, by omega, trivial⟩, rfl⟩
              · exfalso; omega
          · exfalso; omega
      · exfalso; omega
    · show RUN d_X4_readLine 24 [(0, .inr (.inr (.inl 1))), (1, .inr (.inr (.inl 4)))] [.inl x6] h _
      refine N_if_eq (a := x6.toInt) 35 rfl rfl rfl (fun c197 => ?_) (fun c197 => ?_)
      · exfalso; omega
      · refine R_aload_n (k := 0) rfl rfl rfl ?_
        refine R_aload_n (k := 1) rfl rfl rfl ?_
        refine R_callV (v := .inr (.inr (.inl 1))) (As := [.inr (.inr (.inl 4))]) (rest := []) rfl mt_4_i62 pp_X4_readHand (by decide) rfl rfl rfl (Nat.le_of_ble_eq_true rfl) (Nat.le_of_ble_eq_true rfl) ((k_X4_readHand h hI).mono (fun r198 h199 p200 => ?_))
        obtain ⟨hJ, fj, ⟨kp201, kp202, xq203, -⟩, rfl⟩ := p200
        have f204 := fj
        have fr := fr.trans fj (by decide)
        have hI := hJ
        have b205 : (0 : Int) ≤ (h199.1 1 1).toInt ∧ (h199.1 1 1).toInt ≤ 3 := hI.1 1 1
        show RUN d_X4_readLine 32 [(0, .inr (.inr (.inl 1))), (1, .inr (.inr (.inl 4)))] [] h199 _
        refine R_goto 80 rfl rfl ?_
        refine R_aload_n (k := 0) rfl rfl rfl ?_
        refine R_callV (v := .inr (.inr (.inl 1))) (As := []) (rest := []) rfl mt_4_i76 pp_X4_takeSign (by decide) rfl rfl rfl (Nat.le_of_ble_eq_true rfl) (Nat.le_of_ble_eq_true rfl) ((k_X4_takeSign h199 hI).mono (fun r206 h207 p208 => ?_))
        obtain ⟨hJ, fj, ⟨xq209, -⟩, rfl⟩ := p208
        have f210 := fj
        have fr := fr.trans fj (by decide)
        have hI := hJ
        have s211 : (h207.1 5 0).toInt = (h199.1 5 0).toInt := by rw [(f210 5 (by decide)).1]
        have s212 : (h207.1 5 10).toInt = (h199.1 5 10).toInt := by rw [(f210 5 (by decide)).1]
        have b213 : (0 : Int) ≤ (h207.1 1 1).toInt ∧ (h207.1 1 1).toInt ≤ 3 := hI.1 1 1
        show RUN d_X4_readLine 84 [(0, .inr (.inr (.inl 1))), (1, .inr (.inr (.inl 4)))] [] h207 _
        refine R_aload_n (k := 1) rfl rfl rfl ?_
        refine R_getf_r (j := 0) rfl ft_4_49 sh_4 rfl ?_
        refine R_bipush 10 rfl rfl ?_
        refine R_dup2 rfl ?_
        refine R_iald rfl sh_5 (by decide) ?_
        show RUN d_X4_readLine 92 [(0, .inr (.inr (.inl 1))), (1, .inr (.inr (.inl 4)))] [.inl (h207.1 5 10), .inl 10, .inr (.inr (.inl 5))] h207 _
        refine R_iconst 1 rfl rfl ?_
        have b214 := i_rng (h207.1 5 10)
        refine R_iadd rfl ?_
        refine N_any (fun x215 => ?_)
        refine K_iast (a := 10) (lo := (-2147483648)) (hi' := 2147483647) rfl sh_5 (by decide) (by decide) hI (by decide) rfl (i_rng _) fr (by decide) (fun h216 g217 hI fr => ?_)
        have s218 : (h216.1 5 0).toInt = (h207.1 5 0).toInt := by rw [g217, show (10 : Int32).toNatClampNeg = 10 from rfl, wI_at (by decide)]
        have s219 : (h216.1 1 1).toInt = (h207.1 1 1).toInt := by rw [g217, wI_ne _ _ _ (by decide)]
        have s220 : (h216.1 5 10).toInt = x215.toInt := by rw [g217, show (10 : Int32).toNatClampNeg = 10 from rfl, wI_is]
        exact R_vret rfl rfl ⟨hI, fr, ⟨by omega, by omega, trivial⟩, rfl⟩
    · show RUN d_X4_readLine 24 [(0, .inr (.inr (.inl 1))), (1, .inr (.inr (.inl 4)))] [.inl x6] h _
      refine N_if_eq (a := x6.toInt) 35 rfl rfl rfl (fun c221 => ?_) (fun c221 => ?_)
      · refine R_aload_n (k := 0) rfl rfl rfl ?_
        refine R_ldc_s (i := 9) rfl kt_4_65 ?_
        refine R_callV (v := .inr (.inr (.inl 1))) (As := [.inr (.inr (.inr 10))]) (rest := []) rfl mt_4_i58 pp_X4_isWord (by decide) rfl rfl rfl (Nat.le_of_ble_eq_true rfl) (Nat.le_of_ble_eq_true rfl) ((k_X4_isWord_1 h hI).mono (fun r222 h223 p224 => ?_))
        obtain ⟨rfl, x225, rfl, q226 | q226 | q226⟩ := p224
        · show RUN d_X4_readLine 41 [(0, .inr (.inr (.inl 1))), (1, .inr (.inr (.inl 4)))] [.inl x225] h _
          refine N_if_eq (a := x225.toInt) 55 rfl rfl rfl (fun c227 => ?_) (fun c227 => ?_)
          · refine R_aload_n (k := 0) rfl rfl rfl ?_
            refine R_ldc_s (i := 10) rfl kt_4_71 ?_
            refine R_callV (v := .inr (.inr (.inl 1))) (As := [.inr (.inr (.inr 11))]) (rest := []) rfl mt_4_i58 pp_X4_isWord (by decide) rfl rfl rfl (Nat.le_of_ble_eq_true rfl) (Nat.le_of_ble_eq_true rfl) ((k_X4_isWord_2 h hI).mono (fun r228 h229 p230 => ?_))
            obtain ⟨rfl, x231, rfl, q232 | q232 | q232⟩ := p230
            · show RUN d_X4_readLine 61 [(0, .inr (.inr (.inl 1))), (1, .inr (.inr (.inl 4)))] [.inl x231] h _
              refine N_if_eq (a := x231.toInt) 75 rfl rfl rfl (fun c233 => ?_) (fun c233 => ?_)
              · refine R_aload_n (k := 0) rfl rfl rfl ?_
                refine R_aload_n (k := 1) rfl rfl rfl ?_
                refine R_callV (v := .inr (.inr (.inl 1))) (As := [.inr (.inr (.inl 4))]) (rest := []) rfl mt_4_i73 pp_X4_readFire (by decide) rfl rfl rfl (Nat.le_of_ble_eq_true rfl) (Nat.le_of_ble_eq_true rfl) ((k_X4_readFire h hI).mono (fun r234 h235 p236 => ?_))
                obtain ⟨hJ, fj, ⟨kp237, kp238, xq239, -⟩, rfl⟩ := p236
                have f240 := fj
                have fr := fr.trans fj (by decide)
                have hI := hJ
                have b241 : (0 : Int) ≤ (h235.1 1 1).toInt ∧ (h235.1 1 1).toInt ≤ 3 := hI.1 1 1
                show RUN d_X4_readLine 80 [(0, .inr (.inr (.inl 1))), (1, .inr (.inr (.inl 4)))] [] h235 _
                refine R_aload_n (k := 0) rfl rfl rfl ?_
                refine R_callV (v := .inr (.inr (.inl 1))) (As := []) (rest := []) rfl mt_4_i76 pp_X4_takeSign (by decide) rfl rfl rfl (Nat.le_of_ble_eq_true rfl) (Nat.le_of_ble_eq_true rfl) ((k_X4_takeSign h235 hI).mono (fun r242 h243 p244 => ?_))
                obtain ⟨hJ, fj, ⟨xq245, -⟩, rfl⟩ := p244
                have f246 := fj
                have fr := fr.trans fj (by decide)
                have hI := hJ
                have s247 : (h243.1 5 0).toInt = (h235.1 5 0).toInt := by rw [(f246 5 (by decide)).1]
                have s248 : (h243.1 5 10).toInt = (h235.1 5 10).toInt := by rw [(f246 5 (by decide)).1]
                have b249 : (0 : Int) ≤ (h243.1 1 1).toInt ∧ (h243.1 1 1).toInt ≤ 3 := hI.1 1 1
                show RUN d_X4_readLine 84 [(0, .inr (.inr (.inl 1))), (1, .inr (.inr (.inl 4)))] [] h243 _
                refine R_aload_n (k := 1) rfl rfl rfl ?_
                refine R_getf_r (j := 0) rfl ft_4_49 sh_4 rfl ?_
                refine R_bipush 10 rfl rfl ?_
                refine R_dup2 rfl ?_
                refine R_iald rfl sh_5 (by decide) ?_
                show RUN d_X4_readLine 92 [(0, .inr (.inr (.inl 1))), (1, .inr (.inr (.inl 4)))] [.inl (h243.1 5 10), .inl 10, .inr (.inr (.inl 5))] h243 _
                refine R_iconst 1 rfl rfl ?_
                have b250 := i_rng (h243.1 5 10)
                refine R_iadd rfl ?_
                refine N_any (fun x251 => ?_)
                refine K_iast (a := 10) (lo := (-2147483648)) (hi' := 2147483647) rfl sh_5 (by decide) (by decide) hI (by decide) rfl (i_rng _) fr (by decide) (fun h252 g253 hI fr => ?_)
                have s254 : (h252.1 5 0).toInt = (h243.1 5 0).toInt := by rw [g253, show (10 : Int32).toNatClampNeg = 10 from rfl, wI_at (by decide)]
                have s255 : (h252.1 1 1).toInt = (h243.1 1 1).toInt := by rw [g253, wI_ne _ _ _ (by decide)]
                have s256 : (h252.1 5 10).toInt = x251.toInt := by rw [g253, show (10 : Int32).toNatClampNeg = 10 from rfl, wI_is]
                exact R_vret rfl rfl ⟨hI, fr, ⟨by omega, by omega, trivial⟩, rfl⟩
              · exfalso; omega
            · show RUN d_X4_readLine 61 [(0, .inr (.inr (.inl 1))), (1, .inr (.inr (.inl 4)))] [.inl x231] h _
              refine N_if_eq (a := x231.toInt) 75 rfl rfl rfl (fun c257 => ?_) (fun c257 => ?_)
              · exfalso; omega
              · refine R_aload_n (k := 0) rfl rfl rfl ?_
                refine R_aload_n (k := 1) rfl rfl rfl ?_
                refine R_ldc_s (i := 10) rfl kt_4_71 ?_
                refine R_iconst 0 rfl rfl ?_
                have k258 : (0 : Int32).toInt = 0 := by decide
                refine R_callV (v := .inr (.inr (.inl 1))) (As := [.inr (.inr (.inl 4)), .inr (.inr (.inr 11)), .inl 0]) (rest := []) rfl mt_4_i67 pp_X4_readPair (by decide) rfl rfl rfl (Nat.le_of_ble_eq_true rfl) (Nat.le_of_ble_eq_true rfl) ((k_X4_readPair h hI (0 : Int32) (by decide)).mono (fun r259 h260 p261 => ?_))
                obtain ⟨hJ, fj, ⟨kp262, kp263, xq264, -⟩, rfl⟩ := p261
                have f265 := fj
                have fr := fr.trans fj (by decide)
                have hI := hJ
                have b266 : (0 : Int) ≤ (h260.1 1 1).toInt ∧ (h260.1 1 1).toInt ≤ 3 := hI.1 1 1
                show RUN d_X4_readLine 72 [(0, .inr (.inr (.inl 1))), (1, .inr (.inr (.inl 4)))] [] h260 _
                refine R_goto 80 rfl rfl ?_
                refine R_aload_n (k := 0) rfl rfl rfl ?_
                refine R_callV (v := .inr (.inr (.inl 1))) (As := []) (rest := []) rfl mt_4_i76 pp_X4_takeSign (by decide) rfl rfl rfl (Nat.le_of_ble_eq_true rfl) (Nat.le_of_ble_eq_true rfl) ((k_X4_takeSign h260 hI).mono (fun r267 h268 p269 => ?_))
                obtain ⟨hJ, fj, ⟨xq270, -⟩, rfl⟩ := p269
                have f271 := fj
                have fr := fr.trans fj (by decide)
                have hI := hJ
                have s272 : (h268.1 5 0).toInt = (h260.1 5 0).toInt := by rw [(f271 5 (by decide)).1]
                have s273 : (h268.1 5 10).toInt = (h260.1 5 10).toInt := by rw [(f271 5 (by decide)).1]
                have b274 : (0 : Int) ≤ (h268.1 1 1).toInt ∧ (h268.1 1 1).toInt ≤ 3 := hI.1 1 1
                show RUN d_X4_readLine 84 [(0, .inr (.inr (.inl 1))), (1, .inr (.inr (.inl 4)))] [] h268 _
                refine R_aload_n (k := 1) rfl rfl rfl ?_
                refine R_getf_r (j := 0) rfl ft_4_49 sh_4 rfl ?_
                refine R_bipush 10 rfl rfl ?_
                refine R_dup2 rfl ?_
                refine R_iald rfl sh_5 (by decide) ?_
                show RUN d_X4_readLine 92 [(0, .inr (.inr (.inl 1))), (1, .inr (.inr (.inl 4)))] [.inl (h268.1 5 10), .inl 10, .inr (.inr (.inl 5))] h268 _
                refine R_iconst 1 rfl rfl ?_
                have b275 := i_rng (h268.1 5 10)
                refine R_iadd rfl ?_
                refine N_any (fun x276 => ?_)
                refine K_iast (a := 10) (lo := (-2147483648)) (hi' := 2147483647) rfl sh_5 (by decide) (by decide) hI (by decide) rfl (i_rng _) fr (by decide) (fun h277 g278 hI fr => ?_)
                have s279 : (h277.1 5 0).toInt = (h268.1 5 0).toInt := by rw [g278, show (10 : Int32).toNatClampNeg = 10 from rfl, wI_at (by decide)]
                have s280 : (h277.1 1 1).toInt = (h268.1 1 1).toInt := by rw [g278, wI_ne _ _ _ (by decide)]
                have s281 : (h277.1 5 10).toInt = x276.toInt := by rw [g278, show (10 : Int32).toNatClampNeg = 10 from rfl, wI_is]
                exact R_vret rfl rfl ⟨hI, fr, ⟨by omega, by omega, trivial⟩, rfl⟩
            · show RUN d_X4_readLine 61 [(0, .inr (.inr (.inl 1))), (1, .inr (.inr (.inl 4)))] [.inl x231] h _
              refine N_if_eq (a := x231.toInt) 75 rfl rfl rfl (fun c282 => ?_) (fun c282 => ?_)
              · refine R_aload_n (k := 0) rfl rfl rfl ?_
                refine R_aload_n (k := 1) rfl rfl rfl ?_
                refine R_callV (v := .inr (.inr (.inl 1))) (As := [.inr (.inr (.inl 4))]) (rest := []) rfl mt_4_i73 pp_X4_readFire (by decide) rfl rfl rfl (Nat.le_of_ble_eq_true rfl) (Nat.le_of_ble_eq_true rfl) ((k_X4_readFire h hI).mono (fun r283 h284 p285 => ?_))
                obtain ⟨hJ, fj, ⟨kp286, kp287, xq288, -⟩, rfl⟩ := p285
                have f289 := fj
                have fr := fr.trans fj (by decide)
                have hI := hJ
                have b290 : (0 : Int) ≤ (h284.1 1 1).toInt ∧ (h284.1 1 1).toInt ≤ 3 := hI.1 1 1
                show RUN d_X4_readLine 80 [(0, .inr (.inr (.inl 1))), (1, .inr (.inr (.inl 4)))] [] h284 _
                refine R_aload_n (k := 0) rfl rfl rfl ?_
                refine R_callV (v := .inr (.inr (.inl 1))) (As := []) (rest := []) rfl mt_4_i76 pp_X4_takeSign (by decide) rfl rfl rfl (Nat.le_of_ble_eq_true rfl) (Nat.le_of_ble_eq_true rfl) ((k_X4_takeSign h284 hI).mono (fun r291 h292 p293 => ?_))
                obtain ⟨hJ, fj, ⟨xq294, -⟩, rfl⟩ := p293
                have f295 := fj
                have fr := fr.trans fj (by decide)
                have hI := hJ
                have s296 : (h292.1 5 0).toInt = (h284.1 5 0).toInt := by rw [(f295 5 (by decide)).1]
                have s297 : (h292.1 5 10).toInt = (h284.1 5 10).toInt := by rw [(f295 5 (by decide)).1]
                have b298 : (0 : Int) ≤ (h292.1 1 1).toInt ∧ (h292.1 1 1).toInt ≤ 3 := hI.1 1 1
                show RUN d_X4_readLine 84 [(0, .inr (.inr (.inl 1))), (1, .inr (.inr (.inl 4)))] [] h292 _
                refine R_aload_n (k := 1) rfl rfl rfl ?_
                refine R_getf_r (j := 0) rfl ft_4_49 sh_4 rfl ?_
                refine R_bipush 10 rfl rfl ?_
                refine R_dup2 rfl ?_
                refine R_iald rfl sh_5 (by decide) ?_
                show RUN d_X4_readLine 92 [(0, .inr (.inr (.inl 1))), (1, .inr (.inr (.inl 4)))] [.inl (h292.1 5 10), .inl 10, .inr (.inr (.inl 5))] h292 _
                refine R_iconst 1 rfl rfl ?_
                have b299 := i_rng (h292.1 5 10)
                refine R_iadd rfl ?_
                refine N_any (fun x300 => ?_)
                refine K_iast (a := 10) (lo := (-2147483648)) (hi' := 2147483647) rfl sh_5 (by decide) (by decide) hI (by decide) rfl (i_rng _) fr (by decide) (fun h301 g302 hI fr => ?_)
                have s303 : (h301.1 5 0).toInt = (h292.1 5 0).toInt := by rw [g302, show (10 : Int32).toNatClampNeg = 10 from rfl, wI_at (by decide)]
                have s304 : (h301.1 1 1).toInt = (h292.1 1 1).toInt := by rw [g302, wI_ne _ _ _ (by decide)]
                have s305 : (h301.1 5 10).toInt = x300.toInt := by rw [g302, show (10 : Int32).toNatClampNeg = 10 from rfl, wI_is]
                exact R_vret rfl rfl ⟨hI, fr, ⟨by omega, by omega, trivial⟩, rfl⟩
              · exfalso; omega
          · exfalso; omega
        · show RUN d_X4_readLine 41 [(0, .inr (.inr (.inl 1))), (1, .inr (.inr (.inl 4)))] [.inl x225] h _
          refine N_if_eq (a := x225.toInt) 55 rfl rfl rfl (fun c306 => ?_) (fun c306 => ?_)
          · exfalso; omega
          · refine R_aload_n (k := 0) rfl rfl rfl ?_
            refine R_aload_n (k := 1) rfl rfl rfl ?_
            refine R_ldc_s (i := 9) rfl kt_4_65 ?_
            refine R_iconst 1 rfl rfl ?_
            have k307 : (1 : Int32).toInt = 1 := by decide
            refine R_callV (v := .inr (.inr (.inl 1))) (As := [.inr (.inr (.inl 4)), .inr (.inr (.inr 10)), .inl 1]) (rest := []) rfl mt_4_i67 pp_X4_readPair (by decide) rfl rfl rfl (Nat.le_of_ble_eq_true rfl) (Nat.le_of_ble_eq_true rfl) ((k_X4_readPair_1 h hI (1 : Int32) (by decide)).mono (fun r308 h309 p310 => ?_))
            obtain ⟨hJ, fj, ⟨kp311, kp312, xq313, -⟩, rfl⟩ := p310
            have f314 := fj
            have fr := fr.trans fj (by decide)
            have hI := hJ
            have b315 : (0 : Int) ≤ (h309.1 1 1).toInt ∧ (h309.1 1 1).toInt ≤ 3 := hI.1 1 1
            show RUN d_X4_readLine 52 [(0, .inr (.inr (.inl 1))), (1, .inr (.inr (.inl 4)))] [] h309 _
            refine R_goto 80 rfl rfl ?_
            refine R_aload_n (k := 0) rfl rfl rfl ?_
            refine R_callV (v := .inr (.inr (.inl 1))) (As := []) (rest := []) rfl mt_4_i76 pp_X4_takeSign (by decide) rfl rfl rfl (Nat.le_of_ble_eq_true rfl) (Nat.le_of_ble_eq_true rfl) ((k_X4_takeSign h309 hI).mono (fun r316 h317 p318 => ?_))
            obtain ⟨hJ, fj, ⟨xq319, -⟩, rfl⟩ := p318
            have f320 := fj
            have fr := fr.trans fj (by decide)
            have hI := hJ
            have s321 : (h317.1 5 0).toInt = (h309.1 5 0).toInt := by rw [(f320 5 (by decide)).1]
            have s322 : (h317.1 5 10).toInt = (h309.1 5 10).toInt := by rw [(f320 5 (by decide)).1]
            have b323 : (0 : Int) ≤ (h317.1 1 1).toInt ∧ (h317.1 1 1).toInt ≤ 3 := hI.1 1 1
            show RUN d_X4_readLine 84 [(0, .inr (.inr (.inl 1))), (1, .inr (.inr (.inl 4)))] [] h317 _
            refine R_aload_n (k := 1) rfl rfl rfl ?_
            refine R_getf_r (j := 0) rfl ft_4_49 sh_4 rfl ?_
            refine R_bipush 10 rfl rfl ?_
            refine R_dup2 rfl ?_
            refine R_iald rfl sh_5 (by decide) ?_
            show RUN d_X4_readLine 92 [(0, .inr (.inr (.inl 1))), (1, .inr (.inr (.inl 4)))] [.inl (h317.1 5 10), .inl 10, .inr (.inr (.inl 5))] h317 _
            refine R_iconst 1 rfl rfl ?_
            have b324 := i_rng (h317.1 5 10)
            refine R_iadd rfl ?_
            refine N_any (fun x325 => ?_)
            refine K_iast (a := 10) (lo := (-2147483648)) (hi' := 2147483647) rfl sh_5 (by decide) (by decide) hI (by decide) rfl (i_rng _) fr (by decide) (fun h326 g327 hI fr => ?_)
            have s328 : (h326.1 5 0).toInt = (h317.1 5 0).toInt := by rw [g327, show (10 : Int32).toNatClampNeg = 10 from rfl, wI_at (by decide)]
            have s329 : (h326.1 1 1).toInt = (h317.1 1 1).toInt := by rw [g327, wI_ne _ _ _ (by decide)]
            have s330 : (h326.1 5 10).toInt = x325.toInt := by rw [g327, show (10 : Int32).toNatClampNeg = 10 from rfl, wI_is]
            exact R_vret rfl rfl ⟨hI, fr, ⟨by omega, by omega, trivial⟩, rfl⟩
        · show RUN d_X4_readLine 41 [(0, .inr (.inr (.inl 1))), (1, .inr (.inr (.inl 4)))] [.inl x225] h _
          refine N_if_eq (a := x225.toInt) 55 rfl rfl rfl (fun c331 => ?_) (fun c331 => ?_)
          · refine R_aload_n (k := 0) rfl rfl rfl ?_
            refine R_ldc_s (i := 10) rfl kt_4_71 ?_
            refine R_callV (v := .inr (.inr (.inl 1))) (As := [.inr (.inr (.inr 11))]) (rest := []) rfl mt_4_i58 pp_X4_isWord (by decide) rfl rfl rfl (Nat.le_of_ble_eq_true rfl) (Nat.le_of_ble_eq_true rfl) ((k_X4_isWord_2 h hI).mono (fun r332 h333 p334 => ?_))
            obtain ⟨rfl, x335, rfl, q336 | q336 | q336⟩ := p334
            · show RUN d_X4_readLine 61 [(0, .inr (.inr (.inl 1))), (1, .inr (.inr (.inl 4)))] [.inl x335] h _
              refine N_if_eq (a := x335.toInt) 75 rfl rfl rfl (fun c337 => ?_) (fun c337 => ?_)
              · refine R_aload_n (k := 0) rfl rfl rfl ?_
                refine R_aload_n (k := 1) rfl rfl rfl ?_
                refine R_callV (v := .inr (.inr (.inl 1))) (As := [.inr (.inr (.inl 4))]) (rest := []) rfl mt_4_i73 pp_X4_readFire (by decide) rfl rfl rfl (Nat.le_of_ble_eq_true rfl) (Nat.le_of_ble_eq_true rfl) ((k_X4_readFire h hI).mono (fun r338 h339 p340 => ?_))
                obtain ⟨hJ, fj, ⟨kp341, kp342, xq343, -⟩, rfl⟩ := p340
                have f344 := fj
                have fr := fr.trans fj (by decide)
                have hI := hJ
                have b345 : (0 : Int) ≤ (h339.1 1 1).toInt ∧ (h339.1 1 1).toInt ≤ 3 := hI.1 1 1
                show RUN d_X4_readLine 80 [(0, .inr (.inr (.inl 1))), (1, .inr (.inr (.inl 4)))] [] h339 _
                refine R_aload_n (k := 0) rfl rfl rfl ?_
                refine R_callV (v := .inr (.inr (.inl 1))) (As := []) (rest := []) rfl mt_4_i76 pp_X4_takeSign (by decide) rfl rfl rfl (Nat.le_of_ble_eq_true rfl) (Nat.le_of_ble_eq_true rfl) ((k_X4_takeSign h339 hI).mono (fun r346 h347 p348 => ?_))
                obtain ⟨hJ, fj, ⟨xq349, -⟩, rfl⟩ := p348
                have f350 := fj
                have fr := fr.trans fj (by decide)
                have hI := hJ
                have s351 : (h347.1 5 0).toInt = (h339.1 5 0).toInt := by rw [(f350 5 (by decide)).1]
                have s352 : (h347.1 5 10).toInt = (h339.1 5 10).toInt := by rw [(f350 5 (by decide)).1]
                have b353 : (0 : Int) ≤ (h347.1 1 1).toInt ∧ (h347.1 1 1).toInt ≤ 3 := hI.1 1 1
                show RUN d_X4_readLine 84 [(0, .inr (.inr (.inl 1))), (1, .inr (.inr (.inl 4)))] [] h347 _
                refine R_aload_n (k := 1) rfl rfl rfl ?_
                refine R_getf_r (j := 0) rfl ft_4_49 sh_4 rfl ?_
                refine R_bipush 10 rfl rfl ?_
                refine R_dup2 rfl ?_
                refine R_iald rfl sh_5 (by decide) ?_
                show RUN d_X4_readLine 92 [(0, .inr (.inr (.inl 1))), (1, .inr (.inr (.inl 4)))] [.inl (h347.1 5 10), .inl 10, .inr (.inr (.inl 5))] h347 _
                refine R_iconst 1 rfl rfl ?_
                have b354 := i_rng (h347.1 5 10)
                refine R_iadd rfl ?_
                refine N_any (fun x355 => ?_)
                refine K_iast (a := 10) (lo := (-2147483648)) (hi' := 2147483647) rfl sh_5 (by decide) (by decide) hI (by decide) rfl (i_rng _) fr (by decide) (fun h356 g357 hI fr => ?_)
                have s358 : (h356.1 5 0).toInt = (h347.1 5 0).toInt := by rw [g357, show (10 : Int32).toNatClampNeg = 10 from rfl, wI_at (by decide)]
                have s359 : (h356.1 1 1).toInt = (h347.1 1 1).toInt := by rw [g357, wI_ne _ _ _ (by decide)]
                have s360 : (h356.1 5 10).toInt = x355.toInt := by rw [g357, show (10 : Int32).toNatClampNeg = 10 from rfl, wI_is]
                exact R_vret rfl rfl ⟨hI, fr, ⟨by omega, by omega, trivial⟩, rfl⟩
              · exfalso; omega
            · show RUN d_X4_readLine 61 [(0, .inr (.inr (.inl 1))), (1, .inr (.inr (.inl 4)))] [.inl x335] h _
              refine N_if_eq (a := x335.toInt) 75 rfl rfl rfl (fun c361 => ?_) (fun c361 => ?_)
              · exfalso; omega
              · refine R_aload_n (k := 0) rfl rfl rfl ?_
                refine R_aload_n (k := 1) rfl rfl rfl ?_
                refine R_ldc_s (i := 10) rfl kt_4_71 ?_
                refine R_iconst 0 rfl rfl ?_
                have k362 : (0 : Int32).toInt = 0 := by decide
                refine R_callV (v := .inr (.inr (.inl 1))) (As := [.inr (.inr (.inl 4)), .inr (.inr (.inr 11)), .inl 0]) (rest := []) rfl mt_4_i67 pp_X4_readPair (by decide) rfl rfl rfl (Nat.le_of_ble_eq_true rfl) (Nat.le_of_ble_eq_true rfl) ((k_X4_readPair h hI (0 : Int32) (by decide)).mono (fun r363 h364 p365 => ?_))
                obtain ⟨hJ, fj, ⟨kp366, kp367, xq368, -⟩, rfl⟩ := p365
                have f369 := fj
                have fr := fr.trans fj (by decide)
                have hI := hJ
                have b370 : (0 : Int) ≤ (h364.1 1 1).toInt ∧ (h364.1 1 1).toInt ≤ 3 := hI.1 1 1
                show RUN d_X4_readLine 72 [(0, .inr (.inr (.inl 1))), (1, .inr (.inr (.inl 4)))] [] h364 _
                refine R_goto 80 rfl rfl ?_
                refine R_aload_n (k := 0) rfl rfl rfl ?_
                refine R_callV (v := .inr (.inr (.inl 1))) (As := []) (rest := []) rfl mt_4_i76 pp_X4_takeSign (by decide) rfl rfl rfl (Nat.le_of_ble_eq_true rfl) (Nat.le_of_ble_eq_true rfl) ((k_X4_takeSign h364 hI).mono (fun r371 h372 p373 => ?_))
                obtain ⟨hJ, fj, ⟨xq374, -⟩, rfl⟩ := p373
                have f375 := fj
                have fr := fr.trans fj (by decide)
                have hI := hJ
                have s376 : (h372.1 5 0).toInt = (h364.1 5 0).toInt := by rw [(f375 5 (by decide)).1]
                have s377 : (h372.1 5 10).toInt = (h364.1 5 10).toInt := by rw [(f375 5 (by decide)).1]
                have b378 : (0 : Int) ≤ (h372.1 1 1).toInt ∧ (h372.1 1 1).toInt ≤ 3 := hI.1 1 1
                show RUN d_X4_readLine 84 [(0, .inr (.inr (.inl 1))), (1, .inr (.inr (.inl 4)))] [] h372 _
                refine R_aload_n (k := 1) rfl rfl rfl ?_
                refine R_getf_r (j := 0) rfl ft_4_49 sh_4 rfl ?_
                refine R_bipush 10 rfl rfl ?_
                refine R_dup2 rfl ?_
                refine R_iald rfl sh_5 (by decide) ?_
                show RUN d_X4_readLine 92 [(0, .inr (.inr (.inl 1))), (1, .inr (.inr (.inl 4)))] [.inl (h372.1 5 10), .inl 10, .inr (.inr (.inl 5))] h372 _
                refine R_iconst 1 rfl rfl ?_
                have b379 := i_rng (h372.1 5 10)
                refine R_iadd rfl ?_
                refine N_any (fun x380 => ?_)
                refine K_iast (a := 10) (lo := (-2147483648)) (hi' := 2147483647) rfl sh_5 (by decide) (by decide) hI (by decide) rfl (i_rng _) fr (by decide) (fun h381 g382 hI fr => ?_)
                have s383 : (h381.1 5 0).toInt = (h372.1 5 0).toInt := by rw [g382, show (10 : Int32).toNatClampNeg = 10 from rfl, wI_at (by decide)]
                have s384 : (h381.1 1 1).toInt = (h372.1 1 1).toInt := by rw [g382, wI_ne _ _ _ (by decide)]
                have s385 : (h381.1 5 10).toInt = x380.toInt := by rw [g382, show (10 : Int32).toNatClampNeg = 10 from rfl, wI_is]
                exact R_vret rfl rfl ⟨hI, fr, ⟨by omega, by omega, trivial⟩, rfl⟩
            · show RUN d_X4_readLine 61 [(0, .inr (.inr (.inl 1))), (1, .inr (.inr (.inl 4)))] [.inl x335] h _
              refine N_if_eq (a := x335.toInt) 75 rfl rfl rfl (fun c386 => ?_) (fun c386 => ?_)
              · refine R_aload_n (k := 0) rfl rfl rfl ?_
                refine R_aload_n (k := 1) rfl rfl rfl ?_
                refine R_callV (v := .inr (.inr (.inl 1))) (As := [.inr (.inr (.inl 4))]) (rest := []) rfl mt_4_i73 pp_X4_readFire (by decide) rfl rfl rfl (Nat.le_of_ble_eq_true rfl) (Nat.le_of_ble_eq_true rfl) ((k_X4_readFire h hI).mono (fun r387 h388 p389 => ?_))
                obtain ⟨hJ, fj, ⟨kp390, kp391, xq392, -⟩, rfl⟩ := p389
                have f393 := fj
                have fr := fr.trans fj (by decide)
                have hI := hJ
                have b394 : (0 : Int) ≤ (h388.1 1 1).toInt ∧ (h388.1 1 1).toInt ≤ 3 := hI.1 1 1
                show RUN d_X4_readLine 80 [(0, .inr (.inr (.inl 1))), (1, .inr (.inr (.inl 4)))] [] h388 _
                refine R_aload_n (k := 0) rfl rfl rfl ?_
                refine R_callV (v := .inr (.inr (.inl 1))) (As := []) (rest := []) rfl mt_4_i76 pp_X4_takeSign (by decide) rfl rfl rfl (Nat.le_of_ble_eq_true rfl) (Nat.le_of_ble_eq_true rfl) ((k_X4_takeSign h388 hI).mono (fun r395 h396 p397 => ?_))
                obtain ⟨hJ, fj, ⟨xq398, -⟩, rfl⟩ := p397
                have f399 := fj
                have fr := fr.trans fj (by decide)
                have hI := hJ
                have s400 : (h396.1 5 0).toInt = (h388.1 5 0).toInt := by rw [(f399 5 (by decide)).1]
                have s401 : (h396.1 5 10).toInt = (h388.1 5 10).toInt := by rw [(f399 5 (by decide)).1]
                have b402 : (0 : Int) ≤ (h396.1 1 1).toInt ∧ (h396.1 1 1).toInt ≤ 3 := hI.1 1 1
                show RUN d_X4_readLine 84 [(0, .inr (.inr (.inl 1))), (1, .inr (.inr (.inl 4)))] [] h396 _
                refine R_aload_n (k := 1) rfl rfl rfl ?_
                refine R_getf_r (j := 0) rfl ft_4_49 sh_4 rfl ?_
                refine R_bipush 10 rfl rfl ?_
                refine R_dup2 rfl ?_
                refine R_iald rfl sh_5 (by decide) ?_
                show RUN d_X4_readLine 92 [(0, .inr (.inr (.inl 1))), (1, .inr (.inr (.inl 4)))] [.inl (h396.1 5 10), .inl 10, .inr (.inr (.inl 5))] h396 _
                refine R_iconst 1 rfl rfl ?_
                have b403 := i_rng (h396.1 5 10)
                refine R_iadd rfl ?_
                refine N_any (fun x404 => ?_)
                refine K_iast (a := 10) (lo := (-2147483648)) (hi' := 2147483647) rfl sh_5 (by decide) (by decide) hI (by decide) rfl (i_rng _) fr (by decide) (fun h405 g406 hI fr => ?_)
                have s407 : (h405.1 5 0).toInt = (h396.1 5 0).toInt := by rw [g406, show (10 : Int32).toNatClampNeg = 10 from rfl, wI_at (by decide)]
                have s408 : (h405.1 1 1).toInt = (h396.1 1 1).toInt := by rw [g406, wI_ne _ _ _ (by decide)]
                have s409 : (h405.1 5 10).toInt = x404.toInt := by rw [g406, show (10 : Int32).toNatClampNeg = 10 from rfl, wI_is]
                exact R_vret rfl rfl ⟨hI, fr, ⟨by omega, by omega, trivial⟩, rfl⟩
              · exfalso; omega
          · exfalso; omega
      · exfalso; omega
  · refine R_aload_n (k := 0) rfl rfl rfl ?_
    refine R_aload_n (k := 1) rfl rfl rfl ?_
    refine R_callV (v := .inr (.inr (.inl 1))) (As := [.inr (.inr (.inl 4))]) (rest := []) rfl mt_4_i53 pp_X4_readFirst (by decide) rfl rfl rfl (Nat.le_of_ble_eq_true rfl) (Nat.le_of_ble_eq_true rfl) ((k_X4_readFirst h hI).mono (fun r410 h411 p412 => ?_))
    obtain ⟨hJ, fj, ⟨kp413, xq414, xq415, -⟩, rfl⟩ := p412
    have f416 := fj
    have fr := fr.trans fj (by decide)
    have hI := hJ
    have b417 : (0 : Int) ≤ (h411.1 1 1).toInt ∧ (h411.1 1 1).toInt ≤ 3 := hI.1 1 1
    show RUN d_X4_readLine 15 [(0, .inr (.inr (.inl 1))), (1, .inr (.inr (.inl 4)))] [] h411 _
    refine R_goto 80 rfl rfl ?_
    refine R_aload_n (k := 0) rfl rfl rfl ?_
    refine R_callV (v := .inr (.inr (.inl 1))) (As := []) (rest := []) rfl mt_4_i76 pp_X4_takeSign (by decide) rfl rfl rfl (Nat.le_of_ble_eq_true rfl) (Nat.le_of_ble_eq_true rfl) ((k_X4_takeSign h411 hI).mono (fun r418 h419 p420 => ?_))
    obtain ⟨hJ, fj, ⟨xq421, -⟩, rfl⟩ := p420
    have f422 := fj
    have fr := fr.trans fj (by decide)
    have hI := hJ
    have s423 : (h419.1 5 10).toInt = (h411.1 5 10).toInt := by rw [(f422 5 (by decide)).1]
    have s424 : (h419.1 5 0).toInt = (h411.1 5 0).toInt := by rw [(f422 5 (by decide)).1]
    have b425 : (0 : Int) ≤ (h419.1 1 1).toInt ∧ (h419.1 1 1).toInt ≤ 3 := hI.1 1 1
    show RUN d_X4_readLine 84 [(0, .inr (.inr (.inl 1))), (1, .inr (.inr (.inl 4)))] [] h419 _
    refine R_aload_n (k := 1) rfl rfl rfl ?_
    refine R_getf_r (j := 0) rfl ft_4_49 sh_4 rfl ?_
    refine R_bipush 10 rfl rfl ?_
    refine R_dup2 rfl ?_
    refine R_iald rfl sh_5 (by decide) ?_
    show RUN d_X4_readLine 92 [(0, .inr (.inr (.inl 1))), (1, .inr (.inr (.inl 4)))] [.inl (h419.1 5 10), .inl 10, .inr (.inr (.inl 5))] h419 _
    refine R_iconst 1 rfl rfl ?_
    refine N_iadd (a := (h419.1 5 10).toInt) (b := 1) rfl rfl (by decide) (by omega) (fun x426 q427 => ?_)
    refine K_iast (a := 10) (lo := (-2147483648)) (hi' := 2147483647) rfl sh_5 (by decide) (by decide) hI (by decide) rfl (i_rng _) fr (by decide) (fun h428 g429 hI fr => ?_)
    have s430 : (h428.1 5 0).toInt = (h419.1 5 0).toInt := by rw [g429, show (10 : Int32).toNatClampNeg = 10 from rfl, wI_at (by decide)]
    have s431 : (h428.1 1 1).toInt = (h419.1 1 1).toInt := by rw [g429, wI_ne _ _ _ (by decide)]
    have s432 : (h428.1 5 10).toInt = x426.toInt := by rw [g429, show (10 : Int32).toNatClampNeg = 10 from rfl, wI_is]
    exact R_vret rfl rfl ⟨hI, fr, ⟨by omega, by omega, trivial⟩, rfl⟩
abbrev q_X4_readInto (h : PH)  : Option PV → PH → Prop := fun r h' => INV h' ∧ FR [1, 5, 6, 7, 8, 9, 10, 11, 12] h h' ∧ (True) ∧ ∃ z : Int32, r = some (.inl z) ∧ (((z.toInt = 0) ∨ (z.toInt = 1)) ∧ (z.toInt = 1 → 0 ≤ (h'.1 5 0).toInt ∧ (h'.1 5 0).toInt ≤ 60 ∧ (0 < (h'.1 5 10).toInt → 1 ≤ (h'.1 5 0).toInt)) ∧ True)
set_option maxHeartbeats 4000000 in
set_option maxRecDepth 100000 in
theorem k_X4_readInto (h : PH) (hI : INV h)  : CALL d_X4_readInto [.inr (.inr (.inl 1)), .inr (.inr (.inl 4))] h (q_X4_readInto h) := by
  show RUN d_X4_readInto 0 [(0, .inr (.inr (.inl 1))), (1, .inr (.inr (.inl 4)))] [] h _
  have fr : FR [1, 5, 6, 7, 8, 9, 10, 11, 12] h h := FR.rf _ _
  have b1 : (0 : Int) ≤ (h.1 1 1).toInt ∧ (h.1 1 1).toInt ≤ 3 := hI.1 1 1
  refine R_aload_n (k := 1) rfl rfl rfl ?_
  refine R_callV (v := .inr (.inr (.inl 4))) (As := []) (rest := []) rfl mt_4_i37 pp_X1_clear (by decide) rfl rfl rfl (Nat.le_of_ble_eq_true rfl) (Nat.le_of_ble_eq_true rfl) ((k_X1_clear h hI).mono (fun r2 h3 p4 => ?_))
  obtain ⟨hJ, fj, ⟨xq5, xq6, -⟩, rfl⟩ := p4
  have f7 := fj
  have fr := fr.trans fj (by decide)
  have hI := hJ
  have s8 : (h3.1 1 1).toInt = (h.1 1 1).toInt := by rw [(f7 1 (by decide)).1]
  show RUN d_X4_readInto 4 [(0, .inr (.inr (.inl 1))), (1, .inr (.inr (.inl 4)))] [] h3 _
  refine R_aload_n (k := 0) rfl rfl rfl ?_
  refine R_iconst 0 rfl rfl ?_
  refine K_putf (j := 1) (lo := 0) (hi' := 3) rfl ft_4_18 sh_1 rfl hI (by decide) rfl (by decide) fr (by decide) (fun h9 g10 hI fr => ?_)
  have s11 : (h9.1 5 0).toInt = (h3.1 5 0).toInt := by rw [g10, wI_ne _ _ _ (by decide)]
  have s12 : (h9.1 5 10).toInt = (h3.1 5 10).toInt := by rw [g10, wI_ne _ _ _ (by decide)]
  have s13 : (h9.1 1 1).toInt = 0 := by rw [g10, wI_is]; rfl
  refine R_aload_n (k := 0) rfl rfl rfl ?_
  refine R_iconst (-1) rfl rfl ?_
  refine K_putf (j := 2) (lo := (-2147483648)) (hi' := 2147483647) rfl ft_4_22 sh_1 rfl hI (by decide) rfl (by decide) fr (by decide) (fun h14 g15 hI fr => ?_)
  have s16 : (h14.1 5 0).toInt = (h9.1 5 0).toInt := by rw [g15, wI_ne _ _ _ (by decide)]
  have s17 : (h14.1 5 10).toInt = (h9.1 5 10).toInt := by rw [g15, wI_ne _ _ _ (by decide)]
  have s18 : (h14.1 1 1).toInt = (h9.1 1 1).toInt := by rw [g15, wI_at (by decide)]
  have s19 : (h14.1 1 2).toInt = (-1) := by rw [g15, wI_is]; rfl
  refine R_aload_n (k := 0) rfl rfl rfl ?_
  refine R_iconst 0 rfl rfl ?_
  refine K_putf (j := 5) (lo := (-2147483648)) (hi' := 2147483647) rfl ft_4_31 sh_1 rfl hI (by decide) rfl (by decide) fr (by decide) (fun h20 g21 hI fr => ?_)
  have s22 : (h20.1 5 0).toInt = (h14.1 5 0).toInt := by rw [g21, wI_ne _ _ _ (by decide)]
  have s23 : (h20.1 5 10).toInt = (h14.1 5 10).toInt := by rw [g21, wI_ne _ _ _ (by decide)]
  have s24 : (h20.1 1 1).toInt = (h14.1 1 1).toInt := by rw [g21, wI_at (by decide)]
  have s25 : (h20.1 1 2).toInt = (h14.1 1 2).toInt := by rw [g21, wI_at (by decide)]
  have s26 : (h20.1 1 5).toInt = 0 := by rw [g21, wI_is]; rfl
  refine R_aload_n (k := 0) rfl rfl rfl ?_
  refine R_callV (v := .inr (.inr (.inl 1))) (As := []) (rest := []) rfl mt_4_i42 pp_X4_nextToken (by decide) rfl rfl rfl (Nat.le_of_ble_eq_true rfl) (Nat.le_of_ble_eq_true rfl) ((k_X4_nextToken h20 hI).mono (fun r27 h28 p29 => ?_))
  obtain ⟨hJ, fj, ⟨kp30, kp31, -⟩, rfl⟩ := p29
  have f32 := fj
  have fr := fr.trans fj (by decide)
  have hI := hJ
  have s33 : (h28.1 5 0).toInt = (h20.1 5 0).toInt := by rw [(f32 5 (by decide)).1]
  have s34 : (h28.1 5 10).toInt = (h20.1 5 10).toInt := by rw [(f32 5 (by decide)).1]
  show RUN d_X4_readInto 23 [(0, .inr (.inr (.inl 1))), (1, .inr (.inr (.inl 4)))] [] h28 _
  refine R_iconst 0 rfl rfl ?_
  refine R_istore_n (k := 2) rfl [(2, .inl 0), (0, .inr (.inr (.inl 1))), (1, .inr (.inr (.inl 4)))] rfl rfl (by decide) ?_
  have lp36 : ∀ (n35 : Nat) (h37 : PH) (x39 : Int32), INV h37 → FR [1, 5, 6, 7, 8, 9, 10, 11, 12] h h37 → FR [1, 5, 6, 7, 8, 9, 10, 11, 12] h28 h37 → 0 ≤ x39.toInt ∧ x39.toInt ≤ 501 → True → True → 0 ≤ (h37.1 1 1).toInt ∧ (h37.1 1 1).toInt ≤ 3 → ((h37.1 1 1).toInt = 0 → ((h37.1 5 10).toInt = 0 ∧ 0 ≤ (h37.1 5 0).toInt ∧ (h37.1 5 0).toInt ≤ 60) ∨ (1 ≤ (h37.1 5 0).toInt ∧ (h37.1 5 0).toInt ≤ 60)) → (501 - x39.toInt).toNat < n35 → RUN d_X4_readInto 25 [(2, .inl x39), (0, .inr (.inr (.inl 1))), (1, .inr (.inr (.inl 4)))] [] h37 (q_X4_readInto h) := by
    intro n35
    induction n35 with
    | zero => intro h37 x39 m41 m42 m43 m44 m45 m46 m47 m48 hz; exact absurd hz (Nat.not_lt_zero _)
    | succ n35 ih40 =>
      intro h37 x39 hI fr fl38 m44 m45 m46 m47 m48 hz
      refine R_iload_n (k := 2) rfl rfl rfl ?_
      refine R_sipush 500 rfl rfl ?_
      refine N_icmp_gt (a := x39.toInt) (b := 500) 58 rfl rfl rfl (by decide) (fun c49 => ?_) (fun c49 => ?_)
      · refine R_aload_n (k := 0) rfl rfl rfl ?_
        refine R_getf_i (j := 1) rfl ft_4_18 sh_1 rfl ?_
        refine N_if_ne (a := (h37.1 1 1).toInt) 69 rfl rfl rfl (fun c50 => ?_) (fun c50 => ?_)
        · refine R_iconst 0 rfl rfl ?_
          have k51 : (0 : Int32).toInt = 0 := by decide
          exact R_iret rfl rfl rfl ⟨hI, fr, trivial, _, rfl, ⟨by rw [show (0 : Int32).toInt = 0 from rfl] <;> omega, by omega, trivial⟩⟩
        · refine R_iconst 1 rfl rfl ?_
          refine R_goto 70 rfl rfl ?_
          have k52 : (1 : Int32).toInt = 1 := by decide
          exact R_iret rfl rfl rfl ⟨hI, fr, trivial, _, rfl, ⟨by rw [show (1 : Int32).toInt = 1 from rfl] <;> omega, by omega, trivial⟩⟩
      · refine R_aload_n (k := 0) rfl rfl rfl ?_
        refine R_getf_i (j := 1) rfl ft_4_18 sh_1 rfl ?_
        refine N_if_ne (a := (h37.1 1 1).toInt) 58 rfl rfl rfl (fun c53 => ?_) (fun c53 => ?_)
        · refine R_aload_n (k := 0) rfl rfl rfl ?_
          refine R_getf_i (j := 1) rfl ft_4_18 sh_1 rfl ?_
          refine N_if_ne (a := (h37.1 1 1).toInt) 69 rfl rfl rfl (fun c54 => ?_) (fun c54 => ?_)
          · refine R_iconst 0 rfl rfl ?_
            have k55 : (0 : Int32).toInt = 0 := by decide
            exact R_iret rfl rfl rfl ⟨hI, fr, trivial, _, rfl, ⟨by rw [show (0 : Int32).toInt = 0 from rfl] <;> omega, by omega, trivial⟩⟩
          · exfalso; omega
        · refine R_aload_n (k := 0) rfl rfl rfl ?_
          refine R_getf_i (j := 3) rfl ft_4_25 sh_1 rfl ?_
          refine R_iconst 5 rfl rfl ?_
          refine N_icmp_eq (a := (h37.1 1 3).toInt) (b := 5) 58 rfl rfl rfl (by decide) (fun c56 => ?_) (fun c56 => ?_)
          · refine R_aload_n (k := 0) rfl rfl rfl ?_
            refine R_getf_i (j := 1) rfl ft_4_18 sh_1 rfl ?_
            refine N_if_ne (a := (h37.1 1 1).toInt) 69 rfl rfl rfl (fun c57 => ?_) (fun c57 => ?_)
            · exfalso; omega
            · refine R_iconst 1 rfl rfl ?_
              refine R_goto 70 rfl rfl ?_
              have k58 : (1 : Int32).toInt = 1 := by decide
              exact R_iret rfl rfl rfl ⟨hI, fr, trivial, _, rfl, ⟨by rw [show (1 : Int32).toInt = 1 from rfl] <;> omega, by omega, trivial⟩⟩
          · refine R_aload_n (k := 0) rfl rfl rfl ?_
            refine R_aload_n (k := 1) rfl rfl rfl ?_
            refine R_callV (v := .inr (.inr (.inl 1))) (As := [.inr (.inr (.inl 4))]) (rest := []) rfl mt_4_i45 pp_X4_readLine (by decide) rfl rfl rfl (Nat.le_of_ble_eq_true rfl) (Nat.le_of_ble_eq_true rfl) ((k_X4_readLine h37 hI).mono (fun r59 h60 p61 => ?_))
            obtain ⟨hJ, fj, ⟨xq62, xq63, -⟩, rfl⟩ := p61
            have f64 := fj
            have fr := fr.trans fj (by decide)
            have hI := hJ
            have fl38 : FR [1, 5, 6, 7, 8, 9, 10, 11, 12] h28 h60 := fl38.trans fj (by decide)
            have b65 : (0 : Int) ≤ (h60.1 1 1).toInt ∧ (h60.1 1 1).toInt ≤ 3 := hI.1 1 1
            show RUN d_X4_readInto 52 [(2, .inl x39), (0, .inr (.inr (.inl 1))), (1, .inr (.inr (.inl 4)))] [] h60 _
            refine N_iinc (a := x39.toInt) (c := 1) (fun w => [(2, .inl w), (0, .inr (.inr (.inl 1))), (1, .inr (.inr (.inl 4)))]) rfl rfl (fun _ => rfl) (by decide) rfl (by decide) (by omega) (fun x66 q67 => ?_)
            refine R_goto 25 rfl rfl ?_
            exact RUN_weak (psub_cons rfl (psub_cons rfl (psub_cons rfl (psub_nil _)))) (ih40 h60 x66 hI fr fl38 (by omega) trivial trivial (by omega) (by omega) (by omega))
  have k68 : (0 : Int32).toInt = 0 := by decide
  exact lp36 _ h28 (0 : Int32) hI fr (FR.rf _ _) (by decide) trivial trivial (by omega) (by omega) (Nat.lt_succ_self _)
abbrev q_X1_copyFrom_4 (h : PH)  : Option PV → PH → Prop := fun r h' => INV h' ∧ FR [17, 18, 19, 20, 21, 22, 23, 24, 25, 26, 27] h h' ∧ (True) ∧ r = none
set_option maxHeartbeats 4000000 in
set_option maxRecDepth 100000 in
theorem k_X1_copyFrom_4 (h : PH) (hI : INV h)  : CALL d_X1_copyFrom [.inr (.inr (.inl 16)), .inr (.inr (.inl 28))] h (q_X1_copyFrom_4 h) := by
  show RUN d_X1_copyFrom 0 [(0, .inr (.inr (.inl 16))), (1, .inr (.inr (.inl 28)))] [] h _
  have fr : FR [17, 18, 19, 20, 21, 22, 23, 24, 25, 26, 27] h h := FR.rf _ _
  refine R_aload_n (k := 1) rfl rfl rfl ?_
  refine R_getf_r (j := 0) rfl ft_1_9 sh_28 rfl ?_
  refine R_iconst 0 rfl rfl ?_
  refine R_aload_n (k := 0) rfl rfl rfl ?_
  refine R_getf_r (j := 0) rfl ft_1_9 sh_16 rfl ?_
  refine R_iconst 0 rfl rfl ?_
  refine R_bipush 11 rfl rfl ?_
  refine K_cpyC rfl mt_1_i46 sh_29 sh_17 ⟨by decide, by decide, Nat.le_of_ble_eq_true rfl⟩ hI (by decide) (by decide) rfl fr (by decide) (fun h1 g2 hI fr => ?_)
  refine R_aload_n (k := 1) rfl rfl rfl ?_
  refine R_getf_r (j := 1) rfl ft_1_15 sh_28 rfl ?_
  refine R_iconst 0 rfl rfl ?_
  refine R_aload_n (k := 0) rfl rfl rfl ?_
  refine R_getf_r (j := 1) rfl ft_1_15 sh_16 rfl ?_
  refine R_iconst 0 rfl rfl ?_
  refine R_bipush 6 rfl rfl ?_
  refine K_cpyA rfl mt_1_i46 sh_30 sh_18 (by decide) ⟨by decide, by decide, Nat.le_of_ble_eq_true rfl⟩ hI (by decide) rfl fr (by decide) (fun h3 g4 hI fr => ?_)
  refine R_aload_n (k := 1) rfl rfl rfl ?_
  refine R_getf_r (j := 2) rfl ft_1_18 sh_28 rfl ?_
  refine R_iconst 0 rfl rfl ?_
  refine R_aload_n (k := 0) rfl rfl rfl ?_
  refine R_getf_r (j := 2) rfl ft_1_18 sh_16 rfl ?_
  refine R_iconst 0 rfl rfl ?_
  refine R_bipush 6 rfl rfl ?_
  refine K_cpyA rfl mt_1_i46 sh_31 sh_19 (by decide) ⟨by decide, by decide, Nat.le_of_ble_eq_true rfl⟩ hI (by decide) rfl fr (by decide) (fun h5 g6 hI fr => ?_)
  refine R_aload_n (k := 1) rfl rfl rfl ?_
  refine R_getf_r (j := 3) rfl ft_1_21 sh_28 rfl ?_
  refine R_iconst 0 rfl rfl ?_
  refine R_aload_n (k := 0) rfl rfl rfl ?_
  refine R_getf_r (j := 3) rfl ft_1_21 sh_16 rfl ?_
  refine R_iconst 0 rfl rfl ?_
  refine R_bipush 6 rfl rfl ?_
  refine K_cpyA rfl mt_1_i46 sh_32 sh_20 (by decide) ⟨by decide, by decide, Nat.le_of_ble_eq_true rfl⟩ hI (by decide) rfl fr (by decide) (fun h7 g8 hI fr => ?_)
  refine R_aload_n (k := 1) rfl rfl rfl ?_
  refine R_getf_r (j := 4) rfl ft_1_24 sh_28 rfl ?_
  refine R_iconst 0 rfl rfl ?_
  refine R_aload_n (k := 0) rfl rfl rfl ?_
  refine R_getf_r (j := 4) rfl ft_1_24 sh_16 rfl ?_
  refine R_iconst 0 rfl rfl ?_
  refine R_bipush 6 rfl rfl ?_
  have k11 : (0 : Int32).toInt = 0 := by decide
  have k12 : (0 : Int32).toInt = 0 := by decide
  have k13 : (6 : Int32).toInt = 6 := by decide
  refine K_cpyL rfl mt_1_i46 sh_33 sh_21 (by omega) ⟨by decide, by decide, Nat.le_of_ble_eq_true rfl⟩ hI fr (by decide) (fun h9 g10 hI fr => ?_)
  refine R_aload_n (k := 1) rfl rfl rfl ?_
  refine R_getf_r (j := 5) rfl ft_1_28 sh_28 rfl ?_
  refine R_iconst 0 rfl rfl ?_
  refine R_aload_n (k := 0) rfl rfl rfl ?_
  refine R_getf_r (j := 5) rfl ft_1_28 sh_16 rfl ?_
  refine R_iconst 0 rfl rfl ?_
  refine R_iconst 5 rfl rfl ?_
  refine K_cpyA rfl mt_1_i46 sh_34 sh_22 (by decide) ⟨by decide, by decide, Nat.le_of_ble_eq_true rfl⟩ hI (by decide) rfl fr (by decide) (fun h14 g15 hI fr => ?_)
  refine R_aload_n (k := 1) rfl rfl rfl ?_
  refine R_getf_r (j := 6) rfl ft_1_31 sh_28 rfl ?_
  refine R_iconst 0 rfl rfl ?_
  refine R_aload_n (k := 0) rfl rfl rfl ?_
  refine R_getf_r (j := 6) rfl ft_1_31 sh_16 rfl ?_
  refine R_iconst 0 rfl rfl ?_
  refine R_iconst 5 rfl rfl ?_
  refine K_cpyA rfl mt_1_i46 sh_35 sh_23 (by decide) ⟨by decide, by decide, Nat.le_of_ble_eq_true rfl⟩ hI (by decide) rfl fr (by decide) (fun h16 g17 hI fr => ?_)
  refine R_aload_n (k := 1) rfl rfl rfl ?_
  refine R_getf_r (j := 7) rfl ft_1_34 sh_28 rfl ?_
  refine R_iconst 0 rfl rfl ?_
  refine R_aload_n (k := 0) rfl rfl rfl ?_
  refine R_getf_r (j := 7) rfl ft_1_34 sh_16 rfl ?_
  refine R_iconst 0 rfl rfl ?_
  refine R_iconst 5 rfl rfl ?_
  refine K_cpyA rfl mt_1_i46 sh_36 sh_24 (by decide) ⟨by decide, by decide, Nat.le_of_ble_eq_true rfl⟩ hI (by decide) rfl fr (by decide) (fun h18 g19 hI fr => ?_)
  refine R_aload_n (k := 1) rfl rfl rfl ?_
  refine R_getf_r (j := 8) rfl ft_1_37 sh_28 rfl ?_
  refine R_iconst 0 rfl rfl ?_
  refine R_aload_n (k := 0) rfl rfl rfl ?_
  refine R_getf_r (j := 8) rfl ft_1_37 sh_16 rfl ?_
  refine R_iconst 0 rfl rfl ?_
  refine R_bipush 30 rfl rfl ?_
  refine K_cpyA rfl mt_1_i46 sh_37 sh_25 (by decide) ⟨by decide, by decide, Nat.le_of_ble_eq_true rfl⟩ hI (by decide) rfl fr (by decide) (fun h20 g21 hI fr => ?_)
  refine R_aload_n (k := 1) rfl rfl rfl ?_
  refine R_getf_r (j := 9) rfl ft_1_40 sh_28 rfl ?_
  refine R_iconst 0 rfl rfl ?_
  refine R_aload_n (k := 0) rfl rfl rfl ?_
  refine R_getf_r (j := 9) rfl ft_1_40 sh_16 rfl ?_
  refine R_iconst 0 rfl rfl ?_
  refine R_bipush 30 rfl rfl ?_
  refine K_cpyA rfl mt_1_i46 sh_38 sh_26 (by decide) ⟨by decide, by decide, Nat.le_of_ble_eq_true rfl⟩ hI (by decide) rfl fr (by decide) (fun h22 g23 hI fr => ?_)
  refine R_aload_n (k := 1) rfl rfl rfl ?_
  refine R_getf_r (j := 10) rfl ft_1_43 sh_28 rfl ?_
  refine R_iconst 0 rfl rfl ?_
  refine R_aload_n (k := 0) rfl rfl rfl ?_
  refine R_getf_r (j := 10) rfl ft_1_43 sh_16 rfl ?_
  refine R_iconst 0 rfl rfl ?_
  refine R_bipush 30 rfl rfl ?_
  refine K_cpyA rfl mt_1_i46 sh_39 sh_27 (by decide) ⟨by decide, by decide, Nat.le_of_ble_eq_true rfl⟩ hI (by decide) rfl fr (by decide) (fun h24 g25 hI fr => ?_)
  exact R_vret rfl rfl ⟨hI, fr, trivial, rfl⟩
abbrev q_X1_copyFrom (h : PH)  : Option PV → PH → Prop := fun r h' => INV h' ∧ FR [17, 18, 19, 20, 21, 22, 23, 24, 25, 26, 27] h h' ∧ (True) ∧ r = none
set_option maxHeartbeats 4000000 in
set_option maxRecDepth 100000 in
theorem k_X1_copyFrom (h : PH) (hI : INV h) (xp0 : 0 ≤ (h.1 5 0).toInt ∧ (h.1 5 0).toInt ≤ 60) (xp1 : 0 < (h.1 5 10).toInt → 1 ≤ (h.1 5 0).toInt) : CALL d_X1_copyFrom [.inr (.inr (.inl 16)), .inr (.inr (.inl 4))] h (q_X1_copyFrom h) := by
  show RUN d_X1_copyFrom 0 [(0, .inr (.inr (.inl 16))), (1, .inr (.inr (.inl 4)))] [] h _
  have fr : FR [17, 18, 19, 20, 21, 22, 23, 24, 25, 26, 27] h h := FR.rf _ _
  refine R_aload_n (k := 1) rfl rfl rfl ?_
  refine R_getf_r (j := 0) rfl ft_1_9 sh_4 rfl ?_
  refine R_iconst 0 rfl rfl ?_
  refine R_aload_n (k := 0) rfl rfl rfl ?_
  refine R_getf_r (j := 0) rfl ft_1_9 sh_16 rfl ?_
  refine R_iconst 0 rfl rfl ?_
  refine R_bipush 11 rfl rfl ?_
  refine K_cpyD rfl mt_1_i46 ⟨by decide, by decide, Nat.le_of_ble_eq_true rfl⟩ hI (by omega) (by omega) fr (by decide) (fun h1 g2 hI fr => ?_)
  have s3 : (h1.1 5 0).toInt = (h.1 5 0).toInt := by rw [g2, cI_ne _ _ (by decide)]
  have s4 : (h1.1 5 10).toInt = (h.1 5 10).toInt := by rw [g2, cI_ne _ _ (by decide)]
  refine R_aload_n (k := 1) rfl rfl rfl ?_
  refine R_getf_r (j := 1) rfl ft_1_15 sh_4 rfl ?_
  refine R_iconst 0 rfl rfl ?_
  refine R_aload_n (k := 0) rfl rfl rfl ?_
  refine R_getf_r (j := 1) rfl ft_1_15 sh_16 rfl ?_
  refine R_iconst 0 rfl rfl ?_
  refine R_bipush 6 rfl rfl ?_
  refine K_cpyA rfl mt_1_i46 sh_6 sh_18 (by decide) ⟨by decide, by decide, Nat.le_of_ble_eq_true rfl⟩ hI (by decide) rfl fr (by decide) (fun h5 g6 hI fr => ?_)
  have s7 : (h5.1 5 0).toInt = (h1.1 5 0).toInt := by rw [g6, cI_ne _ _ (by decide)]
  have s8 : (h5.1 5 10).toInt = (h1.1 5 10).toInt := by rw [g6, cI_ne _ _ (by decide)]
  refine R_aload_n (k := 1) rfl rfl rfl ?_
  refine R_getf_r (j := 2) rfl ft_1_18 sh_4 rfl ?_
  refine R_iconst 0 rfl rfl ?_
  refine R_aload_n (k := 0) rfl rfl rfl ?_
  refine R_getf_r (j := 2) rfl ft_1_18 sh_16 rfl ?_
  refine R_iconst 0 rfl rfl ?_
  refine R_bipush 6 rfl rfl ?_
  refine K_cpyA rfl mt_1_i46 sh_7 sh_19 (by decide) ⟨by decide, by decide, Nat.le_of_ble_eq_true rfl⟩ hI (by decide) rfl fr (by decide) (fun h9 g10 hI fr => ?_)
  have s11 : (h9.1 5 0).toInt = (h5.1 5 0).toInt := by rw [g10, cI_ne _ _ (by decide)]
  have s12 : (h9.1 5 10).toInt = (h5.1 5 10).toInt := by rw [g10, cI_ne _ _ (by decide)]
  refine R_aload_n (k := 1) rfl rfl rfl ?_
  refine R_getf_r (j := 3) rfl ft_1_21 sh_4 rfl ?_
  refine R_iconst 0 rfl rfl ?_
  refine R_aload_n (k := 0) rfl rfl rfl ?_
  refine R_getf_r (j := 3) rfl ft_1_21 sh_16 rfl ?_
  refine R_iconst 0 rfl rfl ?_
  refine R_bipush 6 rfl rfl ?_
  refine K_cpyA rfl mt_1_i46 sh_8 sh_20 (by decide) ⟨by decide, by decide, Nat.le_of_ble_eq_true rfl⟩ hI (by decide) rfl fr (by decide) (fun h13 g14 hI fr => ?_)
  have s15 : (h13.1 5 0).toInt = (h9.1 5 0).toInt := by rw [g14, cI_ne _ _ (by decide)]
  have s16 : (h13.1 5 10).toInt = (h9.1 5 10).toInt := by rw [g14, cI_ne _ _ (by decide)]
  refine R_aload_n (k := 1) rfl rfl rfl ?_
  refine R_getf_r (j := 4) rfl ft_1_24 sh_4 rfl ?_
  refine R_iconst 0 rfl rfl ?_
  refine R_aload_n (k := 0) rfl rfl rfl ?_
  refine R_getf_r (j := 4) rfl ft_1_24 sh_16 rfl ?_
  refine R_iconst 0 rfl rfl ?_
  refine R_bipush 6 rfl rfl ?_
  have k19 : (0 : Int32).toInt = 0 := by decide
  have k20 : (0 : Int32).toInt = 0 := by decide
  have k21 : (6 : Int32).toInt = 6 := by decide
  refine K_cpyL rfl mt_1_i46 sh_9 sh_21 (by omega) ⟨by decide, by decide, Nat.le_of_ble_eq_true rfl⟩ hI fr (by decide) (fun h17 g18 hI fr => ?_)
  have s22 : (h17.1 5 0).toInt = (h13.1 5 0).toInt := by rw [g18, cL_fst]
  have s23 : (h17.1 5 10).toInt = (h13.1 5 10).toInt := by rw [g18, cL_fst]
  refine R_aload_n (k := 1) rfl rfl rfl ?_
  refine R_getf_r (j := 5) rfl ft_1_28 sh_4 rfl ?_
  refine R_iconst 0 rfl rfl ?_
  refine R_aload_n (k := 0) rfl rfl rfl ?_
  refine R_getf_r (j := 5) rfl ft_1_28 sh_16 rfl ?_
  refine R_iconst 0 rfl rfl ?_
  refine R_iconst 5 rfl rfl ?_
  refine K_cpyA rfl mt_1_i46 sh_10 sh_22 (by decide) ⟨by decide, by decide, Nat.le_of_ble_eq_true rfl⟩ hI (by decide) rfl fr (by decide) (fun h24 g25 hI fr => ?_)
  have s26 : (h24.1 5 0).toInt = (h17.1 5 0).toInt := by rw [g25, cI_ne _ _ (by decide)]
  have s27 : (h24.1 5 10).toInt = (h17.1 5 10).toInt := by rw [g25, cI_ne _ _ (by decide)]
  refine R_aload_n (k := 1) rfl rfl rfl ?_
  refine R_getf_r (j := 6) rfl ft_1_31 sh_4 rfl ?_
  refine R_iconst 0 rfl rfl ?_
  refine R_aload_n (k := 0) rfl rfl rfl ?_
  refine R_getf_r (j := 6) rfl ft_1_31 sh_16 rfl ?_
  refine R_iconst 0 rfl rfl ?_
  refine R_iconst 5 rfl rfl ?_
  refine K_cpyA rfl mt_1_i46 sh_11 sh_23 (by decide) ⟨by decide, by decide, Nat.le_of_ble_eq_true rfl⟩ hI (by decide) rfl fr (by decide) (fun h28 g29 hI fr => ?_)
  have s30 : (h28.1 5 0).toInt = (h24.1 5 0).toInt := by rw [g29, cI_ne _ _ (by decide)]
  have s31 : (h28.1 5 10).toInt = (h24.1 5 10).toInt := by rw [g29, cI_ne _ _ (by decide)]
  refine R_aload_n (k := 1) rfl rfl rfl ?_
  refine R_getf_r (j := 7) rfl ft_1_34 sh_4 rfl ?_
  refine R_iconst 0 rfl rfl ?_
  refine R_aload_n (k := 0) rfl rfl rfl ?_
  refine R_getf_r (j := 7) rfl ft_1_34 sh_16 rfl ?_
  refine R_iconst 0 rfl rfl ?_
  refine R_iconst 5 rfl rfl ?_
  refine K_cpyA rfl mt_1_i46 sh_12 sh_24 (by decide) ⟨by decide, by decide, Nat.le_of_ble_eq_true rfl⟩ hI (by decide) rfl fr (by decide) (fun h32 g33 hI fr => ?_)
  have s34 : (h32.1 5 0).toInt = (h28.1 5 0).toInt := by rw [g33, cI_ne _ _ (by decide)]
  have s35 : (h32.1 5 10).toInt = (h28.1 5 10).toInt := by rw [g33, cI_ne _ _ (by decide)]
  refine R_aload_n (k := 1) rfl rfl rfl ?_
  refine R_getf_r (j := 8) rfl ft_1_37 sh_4 rfl ?_
  refine R_iconst 0 rfl rfl ?_
  refine R_aload_n (k := 0) rfl rfl rfl ?_
  refine R_getf_r (j := 8) rfl ft_1_37 sh_16 rfl ?_
  refine R_iconst 0 rfl rfl ?_
  refine R_bipush 30 rfl rfl ?_
  refine K_cpyA rfl mt_1_i46 sh_13 sh_25 (by decide) ⟨by decide, by decide, Nat.le_of_ble_eq_true rfl⟩ hI (by decide) rfl fr (by decide) (fun h36 g37 hI fr => ?_)
  have s38 : (h36.1 5 0).toInt = (h32.1 5 0).toInt := by rw [g37, cI_ne _ _ (by decide)]
  have s39 : (h36.1 5 10).toInt = (h32.1 5 10).toInt := by rw [g37, cI_ne _ _ (by decide)]
  refine R_aload_n (k := 1) rfl rfl rfl ?_
  refine R_getf_r (j := 9) rfl ft_1_40 sh_4 rfl ?_
  refine R_iconst 0 rfl rfl ?_
  refine R_aload_n (k := 0) rfl rfl rfl ?_
  refine R_getf_r (j := 9) rfl ft_1_40 sh_16 rfl ?_
  refine R_iconst 0 rfl rfl ?_
  refine R_bipush 30 rfl rfl ?_
  refine K_cpyA rfl mt_1_i46 sh_14 sh_26 (by decide) ⟨by decide, by decide, Nat.le_of_ble_eq_true rfl⟩ hI (by decide) rfl fr (by decide) (fun h40 g41 hI fr => ?_)
  have s42 : (h40.1 5 0).toInt = (h36.1 5 0).toInt := by rw [g41, cI_ne _ _ (by decide)]
  have s43 : (h40.1 5 10).toInt = (h36.1 5 10).toInt := by rw [g41, cI_ne _ _ (by decide)]
  refine R_aload_n (k := 1) rfl rfl rfl ?_
  refine R_getf_r (j := 10) rfl ft_1_43 sh_4 rfl ?_
  refine R_iconst 0 rfl rfl ?_
  refine R_aload_n (k := 0) rfl rfl rfl ?_
  refine R_getf_r (j := 10) rfl ft_1_43 sh_16 rfl ?_
  refine R_iconst 0 rfl rfl ?_
  refine R_bipush 30 rfl rfl ?_
  refine K_cpyA rfl mt_1_i46 sh_15 sh_27 (by decide) ⟨by decide, by decide, Nat.le_of_ble_eq_true rfl⟩ hI (by decide) rfl fr (by decide) (fun h44 g45 hI fr => ?_)
  have s46 : (h44.1 5 0).toInt = (h40.1 5 0).toInt := by rw [g45, cI_ne _ _ (by decide)]
  have s47 : (h44.1 5 10).toInt = (h40.1 5 10).toInt := by rw [g45, cI_ne _ _ (by decide)]
  exact R_vret rfl rfl ⟨hI, fr, trivial, rfl⟩
