abbrev q_X7_hasRoom (h : PH) (a0 : Int32) : Option PV → PH → Prop := fun r h' => h = h' ∧ ∃ z : Int32, r = some (.inl z) ∧ ((z.toInt = 0) ∨ (z.toInt = 1 ∧ (h.1 2 1).toInt + a0.toInt ≤ 500))
set_option maxHeartbeats 4000000 in
set_option maxRecDepth 100000 in
theorem k_X7_hasRoom (h : PH) (hI : INV h) (a0 : Int32) (h0a : 4 ≤ a0.toInt ∧ a0.toInt ≤ 20) : CALL d_X7_hasRoom [.inr (.inr (.inl 2)), .inl a0] h (q_X7_hasRoom h a0) := by
  show RUN d_X7_hasRoom 0 [(0, .inr (.inr (.inl 2))), (1, .inl a0)] [] h _
  refine R_aload_n (k := 0) rfl rfl rfl ?_
  refine R_getf_i (j := 1) rfl ft_7_15 sh_2 rfl ?_
  have b1 : (0 : Int) ≤ (h.1 2 1).toInt ∧ (h.1 2 1).toInt ≤ 500 := hI.1 2 1
  refine R_iload_n (k := 1) rfl rfl rfl ?_
  refine N_iadd (a := (h.1 2 1).toInt) (b := a0.toInt) rfl rfl rfl (by omega) (fun x2 q3 => ?_)
  refine R_sipush 500 rfl rfl ?_
  refine N_icmp_gt (a := x2.toInt) (b := 500) 16 rfl rfl rfl (by decide) (fun c4 => ?_) (fun c4 => ?_)
  · refine R_iconst 0 rfl rfl ?_
    exact R_iret rfl rfl rfl ⟨rfl, _, rfl, by rw [show (0 : Int32).toInt = 0 from rfl]; omega⟩
  · refine R_iconst 1 rfl rfl ?_
    refine R_goto 17 rfl rfl ?_
    exact R_iret rfl rfl rfl ⟨rfl, _, rfl, by rw [show (1 : Int32).toInt = 1 from rfl]; omega⟩
abbrev q_X7_putNumber (h : PH) (a0 : Int32) : Option PV → PH → Prop := fun r h' => INV h' ∧ FR [2, 3] h h' ∧ (True) ∧ r = none
set_option maxHeartbeats 4000000 in
set_option maxRecDepth 100000 in
theorem k_X7_putNumber (h : PH) (hI : INV h) (a0 : Int32) : CALL d_X7_putNumber [.inr (.inr (.inl 2)), .inl a0] h (q_X7_putNumber h a0) := by
  show RUN d_X7_putNumber 0 [(0, .inr (.inr (.inl 2))), (1, .inl a0)] [] h _
  have b1 := i_rng a0
  have fr : FR [2, 3] h h := FR.rf _ _
  have b2 : (0 : Int) ≤ (h.1 2 1).toInt ∧ (h.1 2 1).toInt ≤ 500 := hI.1 2 1
  refine R_aload_n (k := 0) rfl rfl rfl ?_
  refine R_iconst 4 rfl rfl ?_
  have k3 : (4 : Int32).toInt = 4 := by decide
  refine R_callV (v := .inr (.inr (.inl 2))) (As := [.inl 4]) (rest := []) rfl mt_7_i19 pp_X7_hasRoom (by decide) rfl rfl rfl (Nat.le_of_ble_eq_true rfl) (Nat.le_of_ble_eq_true rfl) ((k_X7_hasRoom h hI (4 : Int32) (by decide)).mono (fun r4 h5 p6 => ?_))
  obtain ⟨rfl, x7, rfl, q8 | q8⟩ := p6
  · show RUN d_X7_putNumber 5 [(0, .inr (.inr (.inl 2))), (1, .inl a0)] [.inl x7] h _
    refine N_if_ne (a := x7.toInt) 9 rfl rfl rfl (fun c9 => ?_) (fun c9 => ?_)
    · exfalso; omega
    · exact R_vret rfl rfl ⟨hI, fr, trivial, rfl⟩
  · show RUN d_X7_putNumber 5 [(0, .inr (.inr (.inl 2))), (1, .inl a0)] [.inl x7] h _
    refine N_if_ne (a := x7.toInt) 9 rfl rfl rfl (fun c10 => ?_) (fun c10 => ?_)
    · refine R_bipush 24 rfl rfl ?_
      refine R_istore_n (k := 2) rfl [(2, .inl 24), (0, .inr (.inr (.inl 2))), (1, .inl a0)] rfl rfl (by decide) ?_
      have lp12 : ∀ (n11 : Nat) (h13 : PH) (x15 : Int32), INV h13 → FR [2, 3] h h13 → FR [2, 3] h h13 → (-1000) ≤ x15.toInt ∧ x15.toInt ≤ 24 → 0 ≤ (h13.1 2 1).toInt ∧ (h13.1 2 1).toInt ≤ 500 → 8 * (h13.1 2 1).toInt + x15.toInt ≤ 3992 → (x15.toInt - (-1000)).toNat < n11 → RUN d_X7_putNumber 12 [(2, .inl x15), (0, .inr (.inr (.inl 2))), (1, .inl a0)] [] h13 (q_X7_putNumber h a0) := by
        intro n11
        induction n11 with
        | zero => intro h13 x15 m17 m18 m19 m20 m21 m22 hz; exact absurd hz (Nat.not_lt_zero _)
        | succ n11 ih16 =>
          intro h13 x15 hI fr fl14 m20 m21 m22 hz
          refine R_iload_n (k := 2) rfl rfl rfl ?_
          refine N_if_lt (a := x15.toInt) 45 rfl rfl rfl (fun c23 => ?_) (fun c23 => ?_)
          · exact R_vret rfl rfl ⟨hI, fr, trivial, rfl⟩
          · refine R_aload_n (k := 0) rfl rfl rfl ?_
            refine R_getf_r (j := 0) rfl ft_7_9 sh_2 rfl ?_
            refine R_aload_n (k := 0) rfl rfl rfl ?_
            refine R_getf_i (j := 1) rfl ft_7_15 sh_2 rfl ?_
            refine R_iload_n (k := 1) rfl rfl rfl ?_
            refine R_iload_n (k := 2) rfl rfl rfl ?_
            refine R_ishr rfl ?_
            refine N_any (fun x24 => ?_)
            refine R_i2b rfl ?_
            refine N_any (fun x25 => ?_)
            refine K_bast (a := (h13.1 2 1).toInt) rfl sh_3 rfl ⟨by omega, by omega⟩ hI (by decide) rfl fr (by decide) (fun h26 g27 hI fr => ?_)
            have fl14 : FR [2, 3] h h26 := by rw [g27]; exact FR_wI _ _ fl14 (by decide)
            have s28 : (h26.1 2 1).toInt = (h13.1 2 1).toInt := by rw [g27, wI_ne _ _ _ (by decide)]
            refine R_aload_n (k := 0) rfl rfl rfl ?_
            refine R_dup_r rfl ?_
            refine R_getf_i (j := 1) rfl ft_7_15 sh_2 rfl ?_
            refine R_iconst 1 rfl rfl ?_
            refine N_iadd (a := (h26.1 2 1).toInt) (b := 1) rfl rfl (by decide) (by omega) (fun x29 q30 => ?_)
            refine K_putf (j := 1) (lo := 0) (hi' := 500) rfl ft_7_15 sh_2 rfl hI (by decide) rfl (by omega) fr (by decide) (fun h31 g32 hI fr => ?_)
            have fl14 : FR [2, 3] h h31 := by rw [g32]; exact FR_wI _ _ fl14 (by decide)
            have s33 : (h31.1 2 1).toInt = x29.toInt := by rw [g32, wI_is]
            refine N_iinc (a := x15.toInt) (c := (-8)) (fun w => [(2, .inl w), (0, .inr (.inr (.inl 2))), (1, .inl a0)]) rfl rfl (fun _ => rfl) (by decide) rfl (by decide) (by omega) (fun x34 q35 => ?_)
            refine R_goto 12 rfl rfl ?_
            exact RUN_weak (psub_cons rfl (psub_cons rfl (psub_cons rfl (psub_nil _)))) (ih16 h31 x34 hI fr fl14 (by omega) (by omega) (by omega) (by omega))
      have k36 : (24 : Int32).toInt = 24 := by decide
      exact lp12 _ h (24 : Int32) hI fr (FR.rf _ _) (by decide) (by omega) (by omega) (Nat.lt_succ_self _)
    · exfalso; omega
abbrev q_X8_feed (h : PH) (a0 : Int32) (a1 : Int32) (a2 : Int32) (a3 : Int32) (a4 : Int32) : Option PV → PH → Prop := fun r h' => INV h' ∧ FR [2, 3] h h' ∧ (True) ∧ ∃ z : Int32, r = some (.inl z) ∧ (((-1) ≤ z.toInt ∧ z.toInt ≤ 500))
set_option maxHeartbeats 4000000 in
set_option maxRecDepth 100000 in
theorem k_X8_feed (h : PH) (hI : INV h) (a0 : Int32) (a1 : Int32) (a2 : Int32) (a3 : Int32) (a4 : Int32) : CALL d_X8_feed [.inr (.inr (.inl 0)), .inl a0, .inl a1, .inl a2, .inl a3, .inl a4] h (q_X8_feed h a0 a1 a2 a3 a4) := by
  show RUN d_X8_feed 0 [(0, .inr (.inr (.inl 0))), (1, .inl a0), (2, .inl a1), (3, .inl a2), (4, .inl a3), (5, .inl a4)] [] h _
  have b1 := i_rng a0
  have b2 := i_rng a1
  have b3 := i_rng a2
  have b4 := i_rng a3
  have b5 := i_rng a4
  have fr : FR [2, 3] h h := FR.rf _ _
  refine R_aload_n (k := 0) rfl rfl rfl ?_
  refine R_getf_r (j := 1) rfl ft_8_20 sh_0 rfl ?_
  refine R_bipush 20 rfl rfl ?_
  have k6 : (20 : Int32).toInt = 20 := by decide
  refine R_callV (v := .inr (.inr (.inl 2))) (As := [.inl 20]) (rest := []) rfl mt_8_i84 pp_X7_hasRoom (by decide) rfl rfl rfl (Nat.le_of_ble_eq_true rfl) (Nat.le_of_ble_eq_true rfl) ((k_X7_hasRoom h hI (20 : Int32) (by decide)).mono (fun r7 h8 p9 => ?_))
  obtain ⟨rfl, x10, rfl, q11 | q11⟩ := p9
  · show RUN d_X8_feed 9 [(0, .inr (.inr (.inl 0))), (1, .inl a0), (2, .inl a1), (3, .inl a2), (4, .inl a3), (5, .inl a4)] [.inl x10] h _
    refine N_if_ne (a := x10.toInt) 14 rfl rfl rfl (fun c12 => ?_) (fun c12 => ?_)
    · exfalso; omega
    · refine R_iconst (-1) rfl rfl ?_
      exact R_iret rfl rfl rfl ⟨hI, fr, trivial, _, rfl, by rw [show ((-1) : Int32).toInt = (-1) from rfl]; omega⟩
  · have b13 : (0 : Int) ≤ (h.1 2 1).toInt ∧ (h.1 2 1).toInt ≤ 500 := hI.1 2 1
    show RUN d_X8_feed 9 [(0, .inr (.inr (.inl 0))), (1, .inl a0), (2, .inl a1), (3, .inl a2), (4, .inl a3), (5, .inl a4)] [.inl x10] h _
    refine N_if_ne (a := x10.toInt) 14 rfl rfl rfl (fun c14 => ?_) (fun c14 => ?_)
    · refine R_aload_n (k := 0) rfl rfl rfl ?_
      refine R_getf_r (j := 1) rfl ft_8_20 sh_0 rfl ?_
      refine R_iload_n (k := 1) rfl rfl rfl ?_
      refine R_callV (v := .inr (.inr (.inl 2))) (As := [.inl a0]) (rest := []) rfl mt_8_i90 pp_X7_putNumber (by decide) rfl rfl rfl (Nat.le_of_ble_eq_true rfl) (Nat.le_of_ble_eq_true rfl) ((k_X7_putNumber h hI a0).mono (fun r15 h16 p17 => ?_))
      obtain ⟨hJ, fj, -, rfl⟩ := p17
      have f18 := fj
      have fr := fr.trans fj (by decide)
      have hI := hJ
      show RUN d_X8_feed 22 [(0, .inr (.inr (.inl 0))), (1, .inl a0), (2, .inl a1), (3, .inl a2), (4, .inl a3), (5, .inl a4)] [] h16 _
      refine R_aload_n (k := 0) rfl rfl rfl ?_
      refine R_getf_r (j := 1) rfl ft_8_20 sh_0 rfl ?_
      refine R_iload_n (k := 2) rfl rfl rfl ?_
      refine R_callV (v := .inr (.inr (.inl 2))) (As := [.inl a1]) (rest := []) rfl mt_8_i90 pp_X7_putNumber (by decide) rfl rfl rfl (Nat.le_of_ble_eq_true rfl) (Nat.le_of_ble_eq_true rfl) ((k_X7_putNumber h16 hI a1).mono (fun r19 h20 p21 => ?_))
      obtain ⟨hJ, fj, -, rfl⟩ := p21
      have f22 := fj
      have fr := fr.trans fj (by decide)
      have hI := hJ
      show RUN d_X8_feed 30 [(0, .inr (.inr (.inl 0))), (1, .inl a0), (2, .inl a1), (3, .inl a2), (4, .inl a3), (5, .inl a4)] [] h20 _
      refine R_aload_n (k := 0) rfl rfl rfl ?_
      refine R_getf_r (j := 1) rfl ft_8_20 sh_0 rfl ?_
      refine R_iload_n (k := 3) rfl rfl rfl ?_
      refine R_callV (v := .inr (.inr (.inl 2))) (As := [.inl a2]) (rest := []) rfl mt_8_i90 pp_X7_putNumber (by decide) rfl rfl rfl (Nat.le_of_ble_eq_true rfl) (Nat.le_of_ble_eq_true rfl) ((k_X7_putNumber h20 hI a2).mono (fun r23 h24 p25 => ?_))
      obtain ⟨hJ, fj, -, rfl⟩ := p25
      have f26 := fj
      have fr := fr.trans fj (by decide)
      have hI := hJ
      show RUN d_X8_feed 38 [(0, .inr (.inr (.inl 0))), (1, .inl a0), (2, .inl a1), (3, .inl a2), (4, .inl a3), (5, .inl a4)] [] h24 _
      refine R_aload_n (k := 0) rfl rfl rfl ?_
      refine R_getf_r (j := 1) rfl ft_8_20 sh_0 rfl ?_
      refine R_iload (k := 4) rfl rfl ?_
      refine R_callV (v := .inr (.inr (.inl 2))) (As := [.inl a3]) (rest := []) rfl mt_8_i90 pp_X7_putNumber (by decide) rfl rfl rfl (Nat.le_of_ble_eq_true rfl) (Nat.le_of_ble_eq_true rfl) ((k_X7_putNumber h24 hI a3).mono (fun r27 h28 p29 => ?_))
      obtain ⟨hJ, fj, -, rfl⟩ := p29
      have f30 := fj
      have fr := fr.trans fj (by decide)
      have hI := hJ
      show RUN d_X8_feed 47 [(0, .inr (.inr (.inl 0))), (1, .inl a0), (2, .inl a1), (3, .inl a2), (4, .inl a3), (5, .inl a4)] [] h28 _
      refine R_aload_n (k := 0) rfl rfl rfl ?_
      refine R_getf_r (j := 1) rfl ft_8_20 sh_0 rfl ?_
      refine R_iload (k := 5) rfl rfl ?_
      refine R_callV (v := .inr (.inr (.inl 2))) (As := [.inl a4]) (rest := []) rfl mt_8_i90 pp_X7_putNumber (by decide) rfl rfl rfl (Nat.le_of_ble_eq_true rfl) (Nat.le_of_ble_eq_true rfl) ((k_X7_putNumber h28 hI a4).mono (fun r31 h32 p33 => ?_))
      obtain ⟨hJ, fj, -, rfl⟩ := p33
      have f34 := fj
      have fr := fr.trans fj (by decide)
      have hI := hJ
      show RUN d_X8_feed 56 [(0, .inr (.inr (.inl 0))), (1, .inl a0), (2, .inl a1), (3, .inl a2), (4, .inl a3), (5, .inl a4)] [] h32 _
      refine R_aload_n (k := 0) rfl rfl rfl ?_
      refine R_getf_r (j := 1) rfl ft_8_20 sh_0 rfl ?_
      refine R_getf_i (j := 1) rfl ft_8_94 sh_2 rfl ?_
      have b35 : (0 : Int) ≤ (h32.1 2 1).toInt ∧ (h32.1 2 1).toInt ≤ 500 := hI.1 2 1
      exact R_iret rfl rfl rfl ⟨hI, fr, trivial, _, rfl, by omega⟩
    · exfalso; omega
abbrev q_X9_feed (h : PH) (a0 : Int32) (a1 : Int32) (a2 : Int32) (a3 : Int32) (a4 : Int32) : Option PV → PH → Prop := fun r h' => INV h' ∧ FR [96, 100, 101] h h' ∧ (True) ∧ ∃ z : Int32, r = some (.inl z) ∧ (((-1) ≤ z.toInt ∧ z.toInt ≤ 500))
set_option maxHeartbeats 4000000 in
set_option maxRecDepth 100000 in
theorem k_X9_feed (h : PH) (hI : INV h) (a0 : Int32) (a1 : Int32) (a2 : Int32) (a3 : Int32) (a4 : Int32) : CALL d_X9_feed [.inr (.inr (.inl 96)), .inl a0, .inl a1, .inl a2, .inl a3, .inl a4] h (q_X9_feed h a0 a1 a2 a3 a4) := by
  show RUN d_X9_feed 0 [(0, .inr (.inr (.inl 96))), (1, .inl a0), (2, .inl a1), (3, .inl a2), (4, .inl a3), (5, .inl a4)] [] h _
  have b1 := i_rng a0
  have b2 := i_rng a1
  have b3 := i_rng a2
  have b4 := i_rng a3
  have b5 := i_rng a4
  have fr : FR [96, 100, 101] h h := FR.rf _ _
  refine R_aload_n (k := 0) rfl rfl rfl ?_
  refine R_getf_i (j := 5) rfl ft_9_136 sh_96 rfl ?_
  have b6 : (0 : Int) ≤ (h.1 96 5).toInt ∧ (h.1 96 5).toInt ≤ 500 := hI.1 96 5
  refine R_bipush 20 rfl rfl ?_
  refine N_iadd (a := (h.1 96 5).toInt) (b := 20) rfl rfl (by decide) (by omega) (fun x7 q8 => ?_)
  refine R_sipush 500 rfl rfl ?_
  refine N_icmp_le (a := x7.toInt) (b := 500) 15 rfl rfl rfl (by decide) (fun c9 => ?_) (fun c9 => ?_)
  · refine R_aload_n (k := 0) rfl rfl rfl ?_
    refine R_getf_r (j := 6) rfl ft_9_24 sh_96 rfl ?_
    refine R_iconst 0 rfl rfl ?_
    refine R_iload_n (k := 1) rfl rfl rfl ?_
    refine K_iast (a := 0) (lo := (-2147483648)) (hi' := 2147483647) rfl sh_101 (by decide) (by decide) hI (by decide) rfl (i_rng _) fr (by decide) (fun h10 g11 hI fr => ?_)
    have s12 : (h10.1 96 5).toInt = (h.1 96 5).toInt := by rw [g11, wI_ne _ _ _ (by decide)]
    have s13 : (h10.1 101 0).toInt = a0.toInt := by rw [g11, show (0 : Int32).toNatClampNeg = 0 from rfl, wI_is]
    refine R_aload_n (k := 0) rfl rfl rfl ?_
    refine R_getf_r (j := 6) rfl ft_9_24 sh_96 rfl ?_
    refine R_iconst 1 rfl rfl ?_
    refine R_iload_n (k := 2) rfl rfl rfl ?_
    refine K_iast (a := 1) (lo := (-2147483648)) (hi' := 2147483647) rfl sh_101 (by decide) (by decide) hI (by decide) rfl (i_rng _) fr (by decide) (fun h14 g15 hI fr => ?_)
    have s16 : (h14.1 96 5).toInt = (h10.1 96 5).toInt := by rw [g15, wI_ne _ _ _ (by decide)]
    have s17 : (h14.1 101 0).toInt = (h10.1 101 0).toInt := by rw [g15, show (1 : Int32).toNatClampNeg = 1 from rfl, wI_at (by decide)]
    have s18 : (h14.1 101 1).toInt = a1.toInt := by rw [g15, show (1 : Int32).toNatClampNeg = 1 from rfl, wI_is]
    refine R_aload_n (k := 0) rfl rfl rfl ?_
    refine R_getf_r (j := 6) rfl ft_9_24 sh_96 rfl ?_
    refine R_iconst 2 rfl rfl ?_
    refine R_iload_n (k := 3) rfl rfl rfl ?_
    refine K_iast (a := 2) (lo := (-2147483648)) (hi' := 2147483647) rfl sh_101 (by decide) (by decide) hI (by decide) rfl (i_rng _) fr (by decide) (fun h19 g20 hI fr => ?_)
    have s21 : (h19.1 96 5).toInt = (h14.1 96 5).toInt := by rw [g20, wI_ne _ _ _ (by decide)]
    have s22 : (h19.1 101 0).toInt = (h14.1 101 0).toInt := by rw [g20, show (2 : Int32).toNatClampNeg = 2 from rfl, wI_at (by decide)]
    have s23 : (h19.1 101 1).toInt = (h14.1 101 1).toInt := by rw [g20, show (2 : Int32).toNatClampNeg = 2 from rfl, wI_at (by decide)]
    have s24 : (h19.1 101 2).toInt = a2.toInt := by rw [g20, show (2 : Int32).toNatClampNeg = 2 from rfl, wI_is]
    refine R_aload_n (k := 0) rfl rfl rfl ?_
    refine R_getf_r (j := 6) rfl ft_9_24 sh_96 rfl ?_
    refine R_iconst 3 rfl rfl ?_
    refine R_iload (k := 4) rfl rfl ?_
    refine K_iast (a := 3) (lo := (-2147483648)) (hi' := 2147483647) rfl sh_101 (by decide) (by decide) hI (by decide) rfl (i_rng _) fr (by decide) (fun h25 g26 hI fr => ?_)
    have s27 : (h25.1 96 5).toInt = (h19.1 96 5).toInt := by rw [g26, wI_ne _ _ _ (by decide)]
    have s28 : (h25.1 101 0).toInt = (h19.1 101 0).toInt := by rw [g26, show (3 : Int32).toNatClampNeg = 3 from rfl, wI_at (by decide)]
    have s29 : (h25.1 101 1).toInt = (h19.1 101 1).toInt := by rw [g26, show (3 : Int32).toNatClampNeg = 3 from rfl, wI_at (by decide)]
    have s30 : (h25.1 101 2).toInt = (h19.1 101 2).toInt := by rw [g26, show (3 : Int32).toNatClampNeg = 3 from rfl, wI_at (by decide)]
    have s31 : (h25.1 101 3).toInt = a3.toInt := by rw [g26, show (3 : Int32).toNatClampNeg = 3 from rfl, wI_is]
    refine R_aload_n (k := 0) rfl rfl rfl ?_
    refine R_getf_r (j := 6) rfl ft_9_24 sh_96 rfl ?_
    refine R_iconst 4 rfl rfl ?_
    refine R_iload (k := 5) rfl rfl ?_
    refine K_iast (a := 4) (lo := (-2147483648)) (hi' := 2147483647) rfl sh_101 (by decide) (by decide) hI (by decide) rfl (i_rng _) fr (by decide) (fun h32 g33 hI fr => ?_)
    have s34 : (h32.1 96 5).toInt = (h25.1 96 5).toInt := by rw [g33, wI_ne _ _ _ (by decide)]
    have s35 : (h32.1 101 0).toInt = (h25.1 101 0).toInt := by rw [g33, show (4 : Int32).toNatClampNeg = 4 from rfl, wI_at (by decide)]
    have s36 : (h32.1 101 1).toInt = (h25.1 101 1).toInt := by rw [g33, show (4 : Int32).toNatClampNeg = 4 from rfl, wI_at (by decide)]
    have s37 : (h32.1 101 2).toInt = (h25.1 101 2).toInt := by rw [g33, show (4 : Int32).toNatClampNeg = 4 from rfl, wI_at (by decide)]
    have s38 : (h32.1 101 3).toInt = (h25.1 101 3).toInt := by rw [g33, show (4 : Int32).toNatClampNeg = 4 from rfl, wI_at (by decide)]
    have s39 : (h32.1 101 4).toInt = a4.toInt := by rw [g33, show (4 : Int32).toNatClampNeg = 4 from rfl, wI_is]
    refine R_iconst 0 rfl rfl ?_
    refine R_istore (k := 6) [(6, .inl 0), (0, .inr (.inr (.inl 96))), (1, .inl a0), (2, .inl a1), (3, .inl a2), (4, .inl a3), (5, .inl a4)] rfl rfl (by decide) ?_
    have lp41 : ∀ (n40 : Nat) (h42 : PH) (x44 : Int32), INV h42 → FR [96, 100, 101] h h42 → FR [96, 100] h32 h42 → 0 ≤ x44.toInt ∧ x44.toInt ≤ 20 → 0 ≤ (h42.1 96 5).toInt ∧ (h42.1 96 5).toInt ≤ 480 → (20 - x44.toInt).toNat < n40 → RUN d_X9_feed 55 [(6, .inl x44), (0, .inr (.inr (.inl 96))), (1, .inl a0), (2, .inl a1), (3, .inl a2), (4, .inl a3), (5, .inl a4)] [] h42 (q_X9_feed h a0 a1 a2 a3 a4) := by
      intro n40
      induction n40 with
      | zero => intro h42 x44 m46 m47 m48 m49 m50 hz; exact absurd hz (Nat.not_lt_zero _)
      | succ n40 ih45 =>
        intro h42 x44 hI fr fl43 m49 m50 hz
        have s51 : (h42.1 101 0).toInt = (h32.1 101 0).toInt := by rw [(fl43 101 (by decide)).1]
        have s52 : (h42.1 101 1).toInt = (h32.1 101 1).toInt := by rw [(fl43 101 (by decide)).1]
        have s53 : (h42.1 101 2).toInt = (h32.1 101 2).toInt := by rw [(fl43 101 (by decide)).1]
        have s54 : (h42.1 101 3).toInt = (h32.1 101 3).toInt := by rw [(fl43 101 (by decide)).1]
        have s55 : (h42.1 101 4).toInt = (h32.1 101 4).toInt := by rw [(fl43 101 (by decide)).1]
        refine R_iload (k := 6) rfl rfl ?_
        refine R_bipush 20 rfl rfl ?_
        refine N_icmp_ge (a := x44.toInt) (b := 20) 101 rfl rfl rfl (by decide) (fun c56 => ?_) (fun c56 => ?_)
        · refine R_aload_n (k := 0) rfl rfl rfl ?_
          refine R_dup_r rfl ?_
          refine R_getf_i (j := 5) rfl ft_9_136 sh_96 rfl ?_
          refine R_bipush 20 rfl rfl ?_
          refine N_iadd (a := (h42.1 96 5).toInt) (b := 20) rfl rfl (by decide) (by omega) (fun x57 q58 => ?_)
          refine K_putf (j := 5) (lo := 0) (hi' := 500) rfl ft_9_136 sh_96 rfl hI (by decide) rfl (by omega) fr (by decide) (fun h59 g60 hI fr => ?_)
          have fl43 : FR [96, 100] h32 h59 := by rw [g60]; exact FR_wI _ _ fl43 (by decide)
          have s61 : (h59.1 101 0).toInt = (h42.1 101 0).toInt := by rw [g60, wI_ne _ _ _ (by decide)]
          have s62 : (h59.1 101 1).toInt = (h42.1 101 1).toInt := by rw [g60, wI_ne _ _ _ (by decide)]
          have s63 : (h59.1 101 2).toInt = (h42.1 101 2).toInt := by rw [g60, wI_ne _ _ _ (by decide)]
          have s64 : (h59.1 101 3).toInt = (h42.1 101 3).toInt := by rw [g60, wI_ne _ _ _ (by decide)]
          have s65 : (h59.1 101 4).toInt = (h42.1 101 4).toInt := by rw [g60, wI_ne _ _ _ (by decide)]
          have s66 : (h59.1 96 5).toInt = x57.toInt := by rw [g60, wI_is]
          refine R_aload_n (k := 0) rfl rfl rfl ?_
          refine R_getf_i (j := 5) rfl ft_9_136 sh_96 rfl ?_
          exact R_iret rfl rfl rfl ⟨hI, fr, trivial, _, rfl, by omega⟩
        · refine R_aload_n (k := 0) rfl rfl rfl ?_
          refine R_getf_r (j := 4) rfl ft_9_20 sh_96 rfl ?_
          refine R_aload_n (k := 0) rfl rfl rfl ?_
          refine R_getf_i (j := 5) rfl ft_9_136 sh_96 rfl ?_
          refine R_iload (k := 6) rfl rfl ?_
          refine N_iadd (a := (h42.1 96 5).toInt) (b := x44.toInt) rfl rfl rfl (by omega) (fun x67 q68 => ?_)
          refine R_aload_n (k := 0) rfl rfl rfl ?_
          refine R_getf_r (j := 6) rfl ft_9_24 sh_96 rfl ?_
          refine R_iload (k := 6) rfl rfl ?_
          refine R_iconst 4 rfl rfl ?_
          refine N_idiv (a := x44.toInt) (b := 4) rfl rfl (by decide) (by omega) (by omega) (fun x69 q70 => ?_)
          refine R_iald rfl sh_101 ⟨by omega, by omega⟩ ?_
          refine N_any (fun x71 => ?_)
          refine R_bipush 24 rfl rfl ?_
          refine R_bipush 8 rfl rfl ?_
          refine R_iload (k := 6) rfl rfl ?_
          refine R_iconst 4 rfl rfl ?_
          refine N_irem (a := x44.toInt) (b := 4) rfl rfl (by decide) (by omega) (by omega) (fun x72 q73 => ?_)
          refine N_imul (a := 8) (b := x72.toInt) rfl (by decide) rfl (by omega) (fun x74 q75 => ?_)
          refine N_isub (a := 24) (b := x74.toInt) rfl (by decide) rfl (by omega) (fun x76 q77 => ?_)
          refine R_ishr rfl ?_
          refine N_any (fun x78 => ?_)
          refine R_i2b rfl ?_
          refine N_any (fun x79 => ?_)
          refine K_bast (a := x67.toInt) rfl sh_100 rfl ⟨by omega, by omega⟩ hI (by decide) rfl fr (by decide) (fun h80 g81 hI fr => ?_)
          have fl43 : FR [96, 100] h32 h80 := by rw [g81]; exact FR_wI _ _ fl43 (by decide)
          have s82 : (h80.1 96 5).toInt = (h42.1 96 5).toInt := by rw [g81, wI_ne _ _ _ (by decide)]
          have s83 : (h80.1 101 0).toInt = (h42.1 101 0).toInt := by rw [g81, wI_ne _ _ _ (by decide)]
          have s84 : (h80.1 101 1).toInt = (h42.1 101 1).toInt := by rw [g81, wI_ne _ _ _ (by decide)]
          have s85 : (h80.1 101 2).toInt = (h42.1 101 2).toInt := by rw [g81, wI_ne _ _ _ (by decide)]
          have s86 : (h80.1 101 3).toInt = (h42.1 101 3).toInt := by rw [g81, wI_ne _ _ _ (by decide)]
          have s87 : (h80.1 101 4).toInt = (h42.1 101 4).toInt := by rw [g81, wI_ne _ _ _ (by decide)]
          refine N_iinc (a := x44.toInt) (c := 1) (fun w => [(6, .inl w), (0, .inr (.inr (.inl 96))), (1, .inl a0), (2, .inl a1), (3, .inl a2), (4, .inl a3), (5, .inl a4)]) rfl rfl (fun _ => rfl) (by decide) rfl (by decide) (by omega) (fun x88 q89 => ?_)
          refine R_goto 55 rfl rfl ?_
          exact RUN_weak (psub_cons rfl (psub_cons rfl (psub_cons rfl (psub_cons rfl (psub_cons rfl (psub_cons rfl (psub_cons rfl (psub_nil _)))))))) (ih45 h80 x88 hI fr fl43 (by omega) (by omega) (by omega))
    exact lp41 _ h32 (0 : Int32) hI fr (FR.rf _ _) (by decide) (by omega) (Nat.lt_succ_self _)
  · refine R_iconst (-1) rfl rfl ?_
    exact R_iret rfl rfl rfl ⟨hI, fr, trivial, _, rfl, by rw [show ((-1) : Int32).toInt = (-1) from rfl]; omega⟩
abbrev q_X8_end (h : PH) (a0 : Int32) : Option PV → PH → Prop := fun r h' => INV h' ∧ FR [2] h h' ∧ (True) ∧ ∃ z : Int32, r = some (.inl z) ∧ (((-1) ≤ z.toInt ∧ z.toInt ≤ 500))
set_option maxHeartbeats 4000000 in
set_option maxRecDepth 100000 in
theorem k_X8_end (h : PH) (hI : INV h) (a0 : Int32) : CALL d_X8_end [.inr (.inr (.inl 0)), .inl a0] h (q_X8_end h a0) := by
  show RUN d_X8_end 0 [(0, .inr (.inr (.inl 0))), (1, .inl a0)] [] h _
  have b1 := i_rng a0
  have fr : FR [2] h h := FR.rf _ _
  refine R_iload_n (k := 1) rfl rfl rfl ?_
  refine N_if_lt (a := a0.toInt) 15 rfl rfl rfl (fun c2 => ?_) (fun c2 => ?_)
  · refine R_iconst (-1) rfl rfl ?_
    exact R_iret rfl rfl rfl ⟨hI, fr, trivial, _, rfl, by rw [show ((-1) : Int32).toInt = (-1) from rfl]; omega⟩
  · refine R_iload_n (k := 1) rfl rfl rfl ?_
    refine R_aload_n (k := 0) rfl rfl rfl ?_
    refine R_getf_r (j := 1) rfl ft_8_20 sh_0 rfl ?_
    refine R_getf_i (j := 1) rfl ft_8_94 sh_2 rfl ?_
    have b3 : (0 : Int) ≤ (h.1 2 1).toInt ∧ (h.1 2 1).toInt ≤ 500 := hI.1 2 1
    refine N_icmp_le (a := a0.toInt) (b := (h.1 2 1).toInt) 17 rfl rfl rfl rfl (fun c4 => ?_) (fun c4 => ?_)
    · refine R_aload_n (k := 0) rfl rfl rfl ?_
      refine R_getf_r (j := 1) rfl ft_8_20 sh_0 rfl ?_
      refine R_iload_n (k := 1) rfl rfl rfl ?_
      refine K_putf (j := 1) (lo := 0) (hi' := 500) rfl ft_8_94 sh_2 rfl hI (by decide) rfl (by omega) fr (by decide) (fun h5 g6 hI fr => ?_)
      have s7 : (h5.1 2 1).toInt = a0.toInt := by rw [g6, wI_is]
      refine R_iload_n (k := 1) rfl rfl rfl ?_
      exact R_iret rfl rfl rfl ⟨hI, fr, trivial, _, rfl, by omega⟩
    · refine R_iconst (-1) rfl rfl ?_
      exact R_iret rfl rfl rfl ⟨hI, fr, trivial, _, rfl, by rw [show ((-1) : Int32).toInt = (-1) from rfl]; omega⟩
abbrev q_X9_in (h : PH) (a0 : Int64) (a1 : Int64) (a2 : Int64) : Option PV → PH → Prop := fun r h' => h = h' ∧ ∃ z : Int32, r = some (.inl z) ∧ ((z.toInt = 0 ∧ a0.toInt ≤ a1.toInt + (-1)) ∨ (z.toInt = 0 ∧ a1.toInt ≤ a0.toInt + 0 ∧ a2.toInt ≤ a0.toInt + (-1)) ∨ (z.toInt = 1 ∧ a1.toInt ≤ a0.toInt + 0 ∧ a0.toInt ≤ a2.toInt + 0))
set_option maxHeartbeats 4000000 in
set_option maxRecDepth 100000 in
theorem k_X9_in (h : PH) (hI : INV h) (a0 : Int64) (a1 : Int64) (a2 : Int64) : CALL d_X9_in [.inr (.inl a0), .inr (.inl a1), .inr (.inl a2)] h (q_X9_in h a0 a1 a2) := by
  show RUN d_X9_in 0 [(0, .inr (.inl a0)), (2, .inr (.inl a1)), (4, .inr (.inl a2))] [] h _
  refine R_lload_n (k := 0) rfl rfl rfl ?_
  refine R_lload_n (k := 2) rfl rfl rfl ?_
  refine N_lcmp (a := a0.toInt) (b := a1.toInt) rfl rfl rfl (fun x1 q2 => ?_)
  refine N_if_lt (a := x1.toInt) 17 rfl rfl rfl (fun c3 => ?_) (fun c3 => ?_)
  · refine R_iconst 0 rfl rfl ?_
    exact R_iret rfl rfl rfl ⟨rfl, _, rfl, by rw [show (0 : Int32).toInt = 0 from rfl]; omega⟩
  · refine R_lload_n (k := 0) rfl rfl rfl ?_
    refine R_lload (k := 4) rfl rfl ?_
    refine N_lcmp (a := a0.toInt) (b := a2.toInt) rfl rfl rfl (fun x4 q5 => ?_)
    refine N_if_gt (a := x4.toInt) 17 rfl rfl rfl (fun c6 => ?_) (fun c6 => ?_)
    · refine R_iconst 0 rfl rfl ?_
      exact R_iret rfl rfl rfl ⟨rfl, _, rfl, by rw [show (0 : Int32).toInt = 0 from rfl]; omega⟩
    · refine R_iconst 1 rfl rfl ?_
      refine R_goto 18 rfl rfl ?_
      exact R_iret rfl rfl rfl ⟨rfl, _, rfl, by rw [show (1 : Int32).toInt = 1 from rfl]; omega⟩
abbrev q_X9_end (h : PH) (a0 : Int32) : Option PV → PH → Prop := fun r h' => INV h' ∧ FR [96] h h' ∧ (True) ∧ ∃ z : Int32, r = some (.inl z) ∧ (((-1) ≤ z.toInt ∧ z.toInt ≤ 500))
set_option maxHeartbeats 4000000 in
set_option maxRecDepth 100000 in
theorem k_X9_end (h : PH) (hI : INV h) (a0 : Int32) : CALL d_X9_end [.inr (.inr (.inl 96)), .inl a0] h (q_X9_end h a0) := by
  show RUN d_X9_end 0 [(0, .inr (.inr (.inl 96))), (1, .inl a0)] [] h _
  have b1 := i_rng a0
  have fr : FR [96] h h := FR.rf _ _
  refine R_iload_n (k := 1) rfl rfl rfl ?_
  refine N_i2l rfl (fun w2 q3 => ?_)
  refine R_lconst 0 rfl rfl ?_
  refine R_aload_n (k := 0) rfl rfl rfl ?_
  refine R_getf_i (j := 5) rfl ft_9_136 sh_96 rfl ?_
  have b4 : (0 : Int) ≤ (h.1 96 5).toInt ∧ (h.1 96 5).toInt ≤ 500 := hI.1 96 5
  refine N_i2l rfl (fun w5 q6 => ?_)
  have k7 : (0 : Int64).toInt = 0 := by decide
  refine R_callS (As := [.inr (.inl w2), .inr (.inl 0), .inr (.inl w5)]) (rest := []) rfl mt_9_i125 (by decide) pp_X9_in (by decide) rfl rfl (Nat.le_of_ble_eq_true rfl) (Nat.le_of_ble_eq_true rfl) ((k_X9_in h hI w2 (0 : Int64) w5).mono (fun r8 h9 p10 => ?_))
  obtain ⟨rfl, x11, rfl, q12 | q12 | q12⟩ := p10
  · show RUN d_X9_end 11 [(0, .inr (.inr (.inl 96))), (1, .inl a0)] [.inl x11] h _
    refine N_if_ne (a := x11.toInt) 16 rfl rfl rfl (fun c13 => ?_) (fun c13 => ?_)
    · exfalso; omega
    · refine R_iconst (-1) rfl rfl ?_
      exact R_iret rfl rfl rfl ⟨hI, fr, trivial, _, rfl, by rw [show ((-1) : Int32).toInt = (-1) from rfl]; omega⟩
  · show RUN d_X9_end 11 [(0, .inr (.inr (.inl 96))), (1, .inl a0)] [.inl x11] h _
    refine N_if_ne (a := x11.toInt) 16 rfl rfl rfl (fun c14 => ?_) (fun c14 => ?_)
    · exfalso; omega
    · refine R_iconst (-1) rfl rfl ?_
      exact R_iret rfl rfl rfl ⟨hI, fr, trivial, _, rfl, by rw [show ((-1) : Int32).toInt = (-1) from rfl]; omega⟩
  · show RUN d_X9_end 11 [(0, .inr (.inr (.inl 96))), (1, .inl a0)] [.inl x11] h _
    refine N_if_ne (a := x11.toInt) 16 rfl rfl rfl (fun c15 => ?_) (fun c15 => ?_)
    · refine R_aload_n (k := 0) rfl rfl rfl ?_
      refine R_iload_n (k := 1) rfl rfl rfl ?_
      refine K_putf (j := 5) (lo := 0) (hi' := 500) rfl ft_9_136 sh_96 rfl hI (by decide) rfl (by omega) fr (by decide) (fun h16 g17 hI fr => ?_)
      have s18 : (h16.1 96 5).toInt = a0.toInt := by rw [g17, wI_is]
      refine R_iload_n (k := 1) rfl rfl rfl ?_
      exact R_iret rfl rfl rfl ⟨hI, fr, trivial, _, rfl, by omega⟩
    · exfalso; omega
abbrev q_X1_clear (h : PH)  : Option PV → PH → Prop := fun r h' => INV h' ∧ FR [] h h' ∧ (True) ∧ r = none
theorem k_X1_clear (h : PH) (hI : INV h)  : CALL d_X1_clear [.inr (.inr (.inl 4))] h (q_X1_clear h) := by sorry
abbrev q_X7_byteAt (h : PH) (a0 : Int32) : Option PV → PH → Prop := fun r h' => h = h' ∧ ∃ z : Int32, r = some (.inl z) ∧ ((True))
set_option maxHeartbeats 4000000 in
set_option maxRecDepth 100000 in
theorem k_X7_byteAt (h : PH) (hI : INV h) (a0 : Int32) (h0a : (-2147483648) ≤ a0.toInt ∧ a0.toInt ≤ 499) : CALL d_X7_byteAt [.inr (.inr (.inl 2)), .inl a0] h (q_X7_byteAt h a0) := by
  show RUN d_X7_byteAt 0 [(0, .inr (.inr (.inl 2))), (1, .inl a0)] [] h _
  refine R_iload_n (k := 1) rfl rfl rfl ?_
  refine N_if_lt (a := a0.toInt) 21 rfl rfl rfl (fun c1 => ?_) (fun c1 => ?_)
  · refine R_iconst (-1) rfl rfl ?_
    exact R_iret rfl rfl rfl ⟨rfl, _, rfl, trivial⟩
  · refine R_iload_n (k := 1) rfl rfl rfl ?_
    refine R_aload_n (k := 0) rfl rfl rfl ?_
    refine R_getf_i (j := 1) rfl ft_7_15 sh_2 rfl ?_
    have b2 : (0 : Int) ≤ (h.1 2 1).toInt ∧ (h.1 2 1).toInt ≤ 500 := hI.1 2 1
    refine N_icmp_ge (a := a0.toInt) (b := (h.1 2 1).toInt) 21 rfl rfl rfl rfl (fun c3 => ?_) (fun c3 => ?_)
    · refine R_iconst (-1) rfl rfl ?_
      exact R_iret rfl rfl rfl ⟨rfl, _, rfl, trivial⟩
    · refine R_aload_n (k := 0) rfl rfl rfl ?_
      refine R_getf_r (j := 0) rfl ft_7_9 sh_2 rfl ?_
      refine R_iload_n (k := 1) rfl rfl rfl ?_
      refine R_bald rfl sh_3 ⟨by omega, by omega⟩ ?_
      refine N_any (fun x4 => ?_)
      refine R_goto 22 rfl rfl ?_
      exact R_iret rfl rfl rfl ⟨rfl, _, rfl, trivial⟩
abbrev q_X4_kindOf (h : PH) (a0 : Int32) : Option PV → PH → Prop := fun r h' => h = h' ∧ ∃ z : Int32, r = some (.inl z) ∧ ((0 ≤ z.toInt ∧ z.toInt ≤ 4))
set_option maxHeartbeats 4000000 in
set_option maxRecDepth 100000 in
theorem k_X4_kindOf (h : PH) (hI : INV h) (a0 : Int32) : CALL d_X4_kindOf [.inl a0] h (q_X4_kindOf h a0) := by
  show RUN d_X4_kindOf 0 [(0, .inl a0)] [] h _
  have b1 := i_rng a0
  refine R_iload_n (k := 0) rfl rfl rfl ?_
  refine R_bipush 97 rfl rfl ?_
  refine N_icmp_lt (a := a0.toInt) (b := 97) 14 rfl rfl rfl (by decide) (fun c2 => ?_) (fun c2 => ?_)
  · refine R_iload_n (k := 0) rfl rfl rfl ?_
    refine R_bipush 48 rfl rfl ?_
    refine N_icmp_lt (a := a0.toInt) (b := 48) 28 rfl rfl rfl (by decide) (fun c3 => ?_) (fun c3 => ?_)
    · refine R_iload_n (k := 0) rfl rfl rfl ?_
      refine R_bipush 32 rfl rfl ?_
      refine N_icmp_eq (a := a0.toInt) (b := 32) 40 rfl rfl rfl (by decide) (fun c4 => ?_) (fun c4 => ?_)
      · refine R_iconst 4 rfl rfl ?_
        exact R_iret rfl rfl rfl ⟨rfl, _, rfl, by rw [show (4 : Int32).toInt = 4 from rfl]; omega⟩
      · refine R_iload_n (k := 0) rfl rfl rfl ?_
        refine R_bipush 10 rfl rfl ?_
        refine N_icmp_ne (a := a0.toInt) (b := 10) 42 rfl rfl rfl (by decide) (fun c5 => ?_) (fun c5 => ?_)
        · refine R_iload_n (k := 0) rfl rfl rfl ?_
          refine R_bipush 59 rfl rfl ?_
          refine N_icmp_ne (a := a0.toInt) (b := 59) 52 rfl rfl rfl (by decide) (fun c6 => ?_) (fun c6 => ?_)
          · refine R_iconst 3 rfl rfl ?_
            exact R_iret rfl rfl rfl ⟨rfl, _, rfl, by rw [show (3 : Int32).toInt = 3 from rfl]; omega⟩
          · exfalso; omega
        · refine R_iconst 4 rfl rfl ?_
          exact R_iret rfl rfl rfl ⟨rfl, _, rfl, by rw [show (4 : Int32).toInt = 4 from rfl]; omega⟩
    · refine R_iload_n (k := 0) rfl rfl rfl ?_
      refine R_bipush 57 rfl rfl ?_
      refine N_icmp_gt (a := a0.toInt) (b := 57) 28 rfl rfl rfl (by decide) (fun c7 => ?_) (fun c7 => ?_)
      · refine R_iload_n (k := 0) rfl rfl rfl ?_
        refine R_bipush 32 rfl rfl ?_
        refine N_icmp_eq (a := a0.toInt) (b := 32) 40 rfl rfl rfl (by decide) (fun c8 => ?_) (fun c8 => ?_)
        · exfalso; omega
        · refine R_iload_n (k := 0) rfl rfl rfl ?_
          refine R_bipush 10 rfl rfl ?_
          refine N_icmp_ne (a := a0.toInt) (b := 10) 42 rfl rfl rfl (by decide) (fun c9 => ?_) (fun c9 => ?_)
          · refine R_iload_n (k := 0) rfl rfl rfl ?_
            refine R_bipush 59 rfl rfl ?_
            refine N_icmp_ne (a := a0.toInt) (b := 59) 52 rfl rfl rfl (by decide) (fun c10 => ?_) (fun c10 => ?_)
            · refine R_iconst 3 rfl rfl ?_
              exact R_iret rfl rfl rfl ⟨rfl, _, rfl, by rw [show (3 : Int32).toInt = 3 from rfl]; omega⟩
            · refine R_iconst 2 rfl rfl ?_
              refine R_goto 53 rfl rfl ?_
              exact R_iret rfl rfl rfl ⟨rfl, _, rfl, by rw [show (2 : Int32).toInt = 2 from rfl]; omega⟩
          · exfalso; omega
      · refine R_iconst 1 rfl rfl ?_
        exact R_iret rfl rfl rfl ⟨rfl, _, rfl, by rw [show (1 : Int32).toInt = 1 from rfl]; omega⟩
  · refine R_iload_n (k := 0) rfl rfl rfl ?_
    refine R_bipush 122 rfl rfl ?_
    refine N_icmp_gt (a := a0.toInt) (b := 122) 14 rfl rfl rfl (by decide) (fun c11 => ?_) (fun c11 => ?_)
    · refine R_iload_n (k := 0) rfl rfl rfl ?_
      refine R_bipush 48 rfl rfl ?_
      refine N_icmp_lt (a := a0.toInt) (b := 48) 28 rfl rfl rfl (by decide) (fun c12 => ?_) (fun c12 => ?_)
      · exfalso; omega
      · refine R_iload_n (k := 0) rfl rfl rfl ?_
        refine R_bipush 57 rfl rfl ?_
        refine N_icmp_gt (a := a0.toInt) (b := 57) 28 rfl rfl rfl (by decide) (fun c13 => ?_) (fun c13 => ?_)
        · refine R_iload_n (k := 0) rfl rfl rfl ?_
          refine R_bipush 32 rfl rfl ?_
          refine N_icmp_eq (a := a0.toInt) (b := 32) 40 rfl rfl rfl (by decide) (fun c14 => ?_) (fun c14 => ?_)
          · exfalso; omega
          · refine R_iload_n (k := 0) rfl rfl rfl ?_
            refine R_bipush 10 rfl rfl ?_
            refine N_icmp_ne (a := a0.toInt) (b := 10) 42 rfl rfl rfl (by decide) (fun c15 => ?_) (fun c15 => ?_)
            · refine R_iload_n (k := 0) rfl rfl rfl ?_
              refine R_bipush 59 rfl rfl ?_
              refine N_icmp_ne (a := a0.toInt) (b := 59) 52 rfl rfl rfl (by decide) (fun c16 => ?_) (fun c16 => ?_)
              · refine R_iconst 3 rfl rfl ?_
                exact R_iret rfl rfl rfl ⟨rfl, _, rfl, by rw [show (3 : Int32).toInt = 3 from rfl]; omega⟩
              · exfalso; omega
            · exfalso; omega
        · exfalso; omega
    · refine R_iconst 0 rfl rfl ?_
      exact R_iret rfl rfl rfl ⟨rfl, _, rfl, by rw [show (0 : Int32).toInt = 0 from rfl]; omega⟩
abbrev q_X4_nextToken (h : PH)  : Option PV → PH → Prop := fun r h' => INV h' ∧ FR [1] h h' ∧ ((h'.1 1 1).toInt = (h.1 1 1).toInt ∧ (h'.1 1 2).toInt = (h.1 1 2).toInt ∧ True) ∧ r = none
set_option maxHeartbeats 4000000 in
set_option maxRecDepth 100000 in
theorem k_X4_nextToken (h : PH) (hI : INV h)  : CALL d_X4_nextToken [.inr (.inr (.inl 1))] h (q_X4_nextToken h) := by
  show RUN d_X4_nextToken 0 [(0, .inr (.inr (.inl 1)))] [] h _
  have fr : FR [1] h h := FR.rf _ _
  refine R_aload_n (k := 0) rfl rfl rfl ?_
  refine R_getf_i (j := 1) rfl ft_4_18 sh_1 rfl ?_
  refine N_if_eq (a := (h.1 1 1).toInt) 8 rfl rfl rfl (fun c1 => ?_) (fun c1 => ?_)
  · have lp3 : ∀ (n2 : Nat) (h4 : PH), INV h4 → FR [1] h h4 → FR [1] h h4 → (h4.1 1 1).toInt = (h.1 1 1).toInt → (h4.1 1 2).toInt = (h.1 1 2).toInt → True → (2147483647 - (h4.1 1 5).toInt).toNat < n2 → RUN d_X4_nextToken 8 [(0, .inr (.inr (.inl 1)))] [] h4 (q_X4_nextToken h) := by
      intro n2
      induction n2 with
      | zero => intro h4 m7 m8 m9 m10 m11 m12 hz; exact absurd hz (Nat.not_lt_zero _)
      | succ n2 ih6 =>
        intro h4 hI fr fl5 m10 m11 m12 hz
        refine R_aload_n (k := 0) rfl rfl rfl ?_
        refine R_getf_i (j := 5) rfl ft_4_31 sh_1 rfl ?_
        refine R_aload_n (k := 0) rfl rfl rfl ?_
        refine R_getf_r (j := 0) rfl ft_4_12 sh_1 rfl ?_
        refine R_getf_i (j := 1) rfl ft_4_135 sh_2 rfl ?_
        have b13 : (0 : Int) ≤ (h4.1 2 1).toInt ∧ (h4.1 2 1).toInt ≤ 500 := hI.1 2 1
        refine N_icmp_ge (a := (h4.1 1 5).toInt) (b := (h4.1 2 1).toInt) 53 rfl rfl rfl rfl (fun c14 => ?_) (fun c14 => ?_)
        · refine R_aload_n (k := 0) rfl rfl rfl ?_
          refine R_aload_n (k := 0) rfl rfl rfl ?_
          refine R_getf_i (j := 5) rfl ft_4_31 sh_1 rfl ?_
          refine K_putf (j := 4) (lo := (-2147483648)) (hi' := 2147483647) rfl ft_4_28 sh_1 rfl hI (by decide) rfl (i_rng _) fr (by decide) (fun h15 g16 hI fr => ?_)
          have fl5 : FR [1] h h15 := by rw [g16]; exact FR_wI _ _ fl5 (by decide)
          have s17 : (h15.1 1 1).toInt = (h4.1 1 1).toInt := by rw [g16, wI_at (by decide)]
          have s18 : (h15.1 1 2).toInt = (h4.1 1 2).toInt := by rw [g16, wI_at (by decide)]
          have s19 : (h15.1 1 5).toInt = (h4.1 1 5).toInt := by rw [g16, wI_at (by decide)]
          have s20 : (h15.1 2 1).toInt = (h4.1 2 1).toInt := by rw [g16, wI_ne _ _ _ (by decide)]
          have s21 : (h15.1 1 4).toInt = (h4.1 1 5).toInt := by rw [g16, wI_is]
          refine R_aload_n (k := 0) rfl rfl rfl ?_
          refine R_getf_i (j := 5) rfl ft_4_31 sh_1 rfl ?_
          refine R_aload_n (k := 0) rfl rfl rfl ?_
          refine R_getf_r (j := 0) rfl ft_4_12 sh_1 rfl ?_
          refine R_getf_i (j := 1) rfl ft_4_135 sh_2 rfl ?_
          refine N_icmp_lt (a := (h15.1 1 5).toInt) (b := (h15.1 2 1).toInt) 81 rfl rfl rfl rfl (fun c22 => ?_) (fun c22 => ?_)
          · refine R_aload_n (k := 0) rfl rfl rfl ?_
            refine R_aload_n (k := 0) rfl rfl rfl ?_
            refine R_getf_r (j := 0) rfl ft_4_12 sh_1 rfl ?_
            refine R_aload_n (k := 0) rfl rfl rfl ?_
            refine R_getf_i (j := 5) rfl ft_4_31 sh_1 rfl ?_
            refine R_callV (v := .inr (.inr (.inl 2))) (As := [.inl (h15.1 1 5)]) (rest := [.inr (.inr (.inl 1))]) rfl mt_4_i127 pp_X7_byteAt (by decide) rfl rfl rfl (Nat.le_of_ble_eq_true rfl) (Nat.le_of_ble_eq_true rfl) ((k_X7_byteAt h15 hI (h15.1 1 5) (by omega)).mono (fun r23 h24 p25 => ?_))
            obtain ⟨rfl, x26, rfl, q27⟩ := p25
            show RUN d_X4_nextToken 93 [(0, .inr (.inr (.inl 1)))] [.inl x26, .inr (.inr (.inl 1))] h15 _
            refine R_callS (As := [.inl x26]) (rest := [.inr (.inr (.inl 1))]) rfl mt_4_i137 (by decide) pp_X4_kindOf (by decide) rfl rfl (Nat.le_of_ble_eq_true rfl) (Nat.le_of_ble_eq_true rfl) ((k_X4_kindOf h15 hI x26).mono (fun r28 h29 p30 => ?_))
            obtain ⟨rfl, x31, rfl, q32⟩ := p30
            show RUN d_X4_nextToken 96 [(0, .inr (.inr (.inl 1)))] [.inl x31, .inr (.inr (.inl 1))] h15 _
            refine K_putf (j := 3) (lo := (-2147483648)) (hi' := 2147483647) rfl ft_4_25 sh_1 rfl hI (by decide) rfl (i_rng _) fr (by decide) (fun h33 g34 hI fr => ?_)
            have fl5 : FR [1] h h33 := by rw [g34]; exact FR_wI _ _ fl5 (by decide)
            have s35 : (h33.1 1 1).toInt = (h15.1 1 1).toInt := by rw [g34, wI_at (by decide)]
            have s36 : (h33.1 1 2).toInt = (h15.1 1 2).toInt := by rw [g34, wI_at (by decide)]
            have s37 : (h33.1 1 5).toInt = (h15.1 1 5).toInt := by rw [g34, wI_at (by decide)]
            have s38 : (h33.1 2 1).toInt = (h15.1 2 1).toInt := by rw [g34, wI_ne _ _ _ (by decide)]
            have s39 : (h33.1 1 4).toInt = (h15.1 1 4).toInt := by rw [g34, wI_at (by decide)]
            have s40 : (h33.1 1 3).toInt = x31.toInt := by rw [g34, wI_is]
            refine R_aload_n (k := 0) rfl rfl rfl ?_
            refine R_iconst 0 rfl rfl ?_
            refine K_putf (j := 6) (lo := (-2147483648)) (hi' := 2147483647) rfl ft_4_34 sh_1 rfl hI (by decide) rfl (by decide) fr (by decide) (fun h41 g42 hI fr => ?_)
            have fl5 : FR [1] h h41 := by rw [g42]; exact FR_wI _ _ fl5 (by decide)
            have s43 : (h41.1 1 1).toInt = (h33.1 1 1).toInt := by rw [g42, wI_at (by decide)]
            have s44 : (h41.1 1 2).toInt = (h33.1 1 2).toInt := by rw [g42, wI_at (by decide)]
            have s45 : (h41.1 1 5).toInt = (h33.1 1 5).toInt := by rw [g42, wI_at (by decide)]
            have s46 : (h41.1 2 1).toInt = (h33.1 2 1).toInt := by rw [g42, wI_ne _ _ _ (by decide)]
            have s47 : (h41.1 1 4).toInt = (h33.1 1 4).toInt := by rw [g42, wI_at (by decide)]
            have s48 : (h41.1 1 3).toInt = (h33.1 1 3).toInt := by rw [g42, wI_at (by decide)]
            have s49 : (h41.1 1 6).toInt = 0 := by rw [g42, wI_is]; rfl
            refine R_aload_n (k := 0) rfl rfl rfl ?_
            refine R_getf_i (j := 3) rfl ft_4_25 sh_1 rfl ?_
            refine N_if_eq (a := (h41.1 1 3).toInt) 130 rfl rfl rfl (fun c50 => ?_) (fun c50 => ?_)
            · have lp52 : ∀ (n51 : Nat) (h53 : PH), INV h53 → FR [1] h h53 → FR [1] h41 h53 → (h53.1 1 1).toInt = (h41.1 1 1).toInt → (h53.1 1 2).toInt = (h41.1 1 2).toInt → (h53.1 1 4).toInt = (h41.1 1 4).toInt → (h53.1 1 3).toInt = (h41.1 1 3).toInt → 2 ≤ (h53.1 1 5).toInt ∧ (h53.1 1 5).toInt ≤ 495 → (h53.1 1 6).toInt ≤ 1000000 → (h53.1 1 5).toInt ≤ (h41.1 1 1).toInt + 494 → (h53.1 1 5).toInt ≤ (h41.1 2 1).toInt + (-1) → (h41.1 2 1).toInt ≤ (h53.1 1 5).toInt + 0 → (h53.1 1 5).toInt ≤ (h41.1 1 4).toInt + (-1) → (h41.1 1 4).toInt ≤ (h53.1 1 5).toInt + 0 → (h53.1 1 5).toInt ≤ (h41.1 1 3).toInt + 494 → (495 - (h53.1 1 5).toInt).toNat < n51 → RUN d_X4_nextToken 130 [(0, .inr (.inr (.inl 1)))] [] h53 (q_X4_nextToken h) := by
                intro n51
                induction n51 with
                | zero => intro h53 m56 m57 m58 m59 m60 m61 m62 m63 m64 m65 m66 m67 m68 m69 m70 hz; exact absurd hz (Nat.not_lt_zero _)
                | succ n51 ih55 =>
                  intro h53 hI fr fl54 m59 m60 m61 m62 m63 m64 m65 m66 m67 m68 m69 m70 hz
                  have s71 : (h53.1 2 1).toInt = (h41.1 2 1).toInt := by rw [(fl54 2 (by decide)).1]
                  have fl5 : FR [1] h h53 := fl5.trans fl54 (by decide)
                  refine R_aload_n (k := 0) rfl rfl rfl ?_
                  refine R_getf_i (j := 5) rfl ft_4_31 sh_1 rfl ?_
                  refine R_aload_n (k := 0) rfl rfl rfl ?_
                  refine R_getf_r (j := 0) rfl ft_4_12 sh_1 rfl ?_
                  refine R_getf_i (j := 1) rfl ft_4_135 sh_2 rfl ?_
                  refine N_icmp_ge (a := (h53.1 1 5).toInt) (b := (h53.1 2 1).toInt) 209 rfl rfl rfl rfl (fun c72 => ?_) (fun c72 => ?_)
                  · exact R_vret rfl rfl ⟨hI, fr, ⟨by omega, by omega, trivial⟩, rfl⟩
                  · refine R_aload_n (k := 0) rfl rfl rfl ?_
                    refine R_getf_r (j := 0) rfl ft_4_12 sh_1 rfl ?_
                    refine R_aload_n (k := 0) rfl rfl rfl ?_
                    refine R_getf_i (j := 5) rfl ft_4_31 sh_1 rfl ?_
                    refine R_callV (v := .inr (.inr (.inl 2))) (As := [.inl (h53.1 1 5)]) (rest := []) rfl mt_4_i127 pp_X7_byteAt (by decide) rfl rfl rfl (Nat.le_of_ble_eq_true rfl) (Nat.le_of_ble_eq_true rfl) ((k_X7_byteAt h53 hI (h53.1 1 5) (by omega)).mono (fun r73 h74 p75 => ?_))
                    obtain ⟨rfl, x76, rfl, q77⟩ := p75
                    show RUN d_X4_nextToken 155 [(0, .inr (.inr (.inl 1)))] [.inl x76] h53 _
                    refine R_callS (As := [.inl x76]) (rest := []) rfl mt_4_i137 (by decide) pp_X4_kindOf (by decide) rfl rfl (Nat.le_of_ble_eq_true rfl) (Nat.le_of_ble_eq_true rfl) ((k_X4_kindOf h53 hI x76).mono (fun r78 h79 p80 => ?_))
                    obtain ⟨rfl, x81, rfl, q82⟩ := p80
                    show RUN d_X4_nextToken 158 [(0, .inr (.inr (.inl 1)))] [.inl x81] h53 _
                    refine R_aload_n (k := 0) rfl rfl rfl ?_
                    refine R_getf_i (j := 3) rfl ft_4_25 sh_1 rfl ?_
                    refine N_icmp_ne (a := x81.toInt) (b := (h53.1 1 3).toInt) 209 rfl rfl rfl rfl (fun c83 => ?_) (fun c83 => ?_)
                    · exact R_vret rfl rfl ⟨hI, fr, ⟨by omega, by omega, trivial⟩, rfl⟩
                    · refine R_aload_n (k := 0) rfl rfl rfl ?_
                      refine R_ldc_i (x := 1000000) rfl kt_4_140 ?_
                      refine R_aload_n (k := 0) rfl rfl rfl ?_
                      refine R_getf_i (j := 6) rfl ft_4_34 sh_1 rfl ?_
                      refine R_bipush 10 rfl rfl ?_
                      have b84 := i_rng (h53.1 1 6)
                      refine R_imul rfl ?_
                      refine N_any (fun x85 => ?_)
                      refine R_aload_n (k := 0) rfl rfl rfl ?_
                      refine R_getf_r (j := 0) rfl ft_4_12 sh_1 rfl ?_
                      refine R_aload_n (k := 0) rfl rfl rfl ?_
                      refine R_getf_i (j := 5) rfl ft_4_31 sh_1 rfl ?_
                      refine R_callV (v := .inr (.inr (.inl 2))) (As := [.inl (h53.1 1 5)]) (rest := [.inl x85, .inl 1000000, .inr (.inr (.inl 1))]) rfl mt_4_i127 pp_X7_byteAt (by decide) rfl rfl rfl (Nat.le_of_ble_eq_true rfl) (Nat.le_of_ble_eq_true rfl) ((k_X7_byteAt h53 hI (h53.1 1 5) (by omega)).mono (fun r86 h87 p88 => ?_))
                      obtain ⟨rfl, x89, rfl, q90⟩ := p88
                      show RUN d_X4_nextToken 186 [(0, .inr (.inr (.inl 1)))] [.inl x89, .inl x85, .inl 1000000, .inr (.inr (.inl 1))] h53 _
                      have b91 := i_rng x85
                      have b92 := i_rng x89
                      refine R_iadd rfl ?_
                      refine N_any (fun x93 => ?_)
                      refine R_bipush 48 rfl rfl ?_
                      have b94 := i_rng x93
                      refine R_isub rfl ?_
                      refine N_any (fun x95 => ?_)
                      refine N_min (a := 1000000) (b := x95.toInt) rfl mt_4_i141 (by decide) rfl ⟨by decide, by decide, Nat.le_of_ble_eq_true rfl⟩ (fun x96 q97 => ?_)
                      refine K_putf (j := 6) (lo := (-2147483648)) (hi' := 2147483647) rfl ft_4_34 sh_1 rfl hI (by decide) rfl (i_rng _) fr (by decide) (fun h98 g99 hI fr => ?_)
                      have fl54 : FR [1] h41 h98 := by rw [g99]; exact FR_wI _ _ fl54 (by decide)
                      have fl5 : FR [1] h h98 := by rw [g99]; exact FR_wI _ _ fl5 (by decide)
                      have s100 : (h98.1 1 1).toInt = (h53.1 1 1).toInt := by rw [g99, wI_at (by decide)]
                      have s101 : (h98.1 1 2).toInt = (h53.1 1 2).toInt := by rw [g99, wI_at (by decide)]
                      have s102 : (h98.1 1 5).toInt = (h53.1 1 5).toInt := by rw [g99, wI_at (by decide)]
                      have s103 : (h98.1 2 1).toInt = (h53.1 2 1).toInt := by rw [g99, wI_ne _ _ _ (by decide)]
                      have s104 : (h98.1 1 4).toInt = (h53.1 1 4).toInt := by rw [g99, wI_at (by decide)]
                      have s105 : (h98.1 1 3).toInt = (h53.1 1 3).toInt := by rw [g99, wI_at (by decide)]
                      have s106 : (h98.1 1 6).toInt = x96.toInt := by rw [g99, wI_is]
                      refine R_aload_n (k := 0) rfl rfl rfl ?_
                      refine R_dup_r rfl ?_
                      refine R_getf_i (j := 5) rfl ft_4_31 sh_1 rfl ?_
                      refine R_iconst 1 rfl rfl ?_
                      refine N_iadd (a := (h98.1 1 5).toInt) (b := 1) rfl rfl (by decide) (by omega) (fun x107 q108 => ?_)
                      refine K_putf (j := 5) (lo := (-2147483648)) (hi' := 2147483647) rfl ft_4_31 sh_1 rfl hI (by decide) rfl (i_rng _) fr (by decide) (fun h109 g110 hI fr => ?_)
                      have fl54 : FR [1] h41 h109 := by rw [g110]; exact FR_wI _ _ fl54 (by decide)
                      have fl5 : FR [1] h h109 := by rw [g110]; exact FR_wI _ _ fl5 (by decide)
                      have s111 : (h109.1 1 1).toInt = (h98.1 1 1).toInt := by rw [g110, wI_at (by decide)]
                      have s112 : (h109.1 1 2).toInt = (h98.1 1 2).toInt := by rw [g110, wI_at (by decide)]
                      have s113 : (h109.1 2 1).toInt = (h98.1 2 1).toInt := by rw [g110, wI_ne _ _ _ (by decide)]
                      have s114 : (h109.1 1 4).toInt = (h98.1 1 4).toInt := by rw [g110, wI_at (by decide)]
                      have s115 : (h109.1 1 3).toInt = (h98.1 1 3).toInt := by rw [g110, wI_at (by decide)]
                      have s116 : (h109.1 1 6).toInt = (h98.1 1 6).toInt := by rw [g110, wI_at (by decide)]
                      have s117 : (h109.1 1 5).toInt = x107.toInt := by rw [g110, wI_is]
                      refine R_goto 130 rfl rfl ?_
                      exact RUN_weak (psub_cons rfl (psub_nil _)) (ih55 h109 hI fr fl54 (by omega) (by omega) (by omega) (by omega) (by omega) (by omega) (by omega) (by omega) (by omega) (by omega) (by omega) (by omega) (by omega))
              exact lp52 _ h41 hI fr (FR.rf _ _) rfl rfl rfl rfl (by omega) (by omega) (by omega) (by omega) (by omega) (by omega) (by omega) (by omega) (Nat.lt_succ_self _)
            · refine R_aload_n (k := 0) rfl rfl rfl ?_
              refine R_getf_i (j := 3) rfl ft_4_25 sh_1 rfl ?_
              refine R_iconst 1 rfl rfl ?_
              refine N_icmp_eq (a := (h41.1 1 3).toInt) (b := 1) 130 rfl rfl rfl (by decide) (fun c118 => ?_) (fun c118 => ?_)
              · have lp120 : ∀ (n119 : Nat) (h121 : PH), INV h121 → FR [1] h h121 → FR [1] h41 h121 → (h121.1 1 1).toInt = (h41.1 1 1).toInt → (h121.1 1 2).toInt = (h41.1 1 2).toInt → (h121.1 1 4).toInt = (h41.1 1 4).toInt → (h121.1 1 3).toInt = (h41.1 1 3).toInt → 2 ≤ (h121.1 1 5).toInt ∧ (h121.1 1 5).toInt ≤ 495 → (h121.1 1 6).toInt ≤ 1000000 → (h121.1 1 5).toInt ≤ (h41.1 1 1).toInt + 494 → (h121.1 1 5).toInt ≤ (h41.1 2 1).toInt + (-1) → (h41.1 2 1).toInt ≤ (h121.1 1 5).toInt + 0 → (h121.1 1 5).toInt ≤ (h41.1 1 4).toInt + (-1) → (h41.1 1 4).toInt ≤ (h121.1 1 5).toInt + 0 → (h121.1 1 5).toInt ≤ (h41.1 1 3).toInt + 493 → (495 - (h121.1 1 5).toInt).toNat < n119 → RUN d_X4_nextToken 130 [(0, .inr (.inr (.inl 1)))] [] h121 (q_X4_nextToken h) := by
                  intro n119
                  induction n119 with
                  | zero => intro h121 m124 m125 m126 m127 m128 m129 m130 m131 m132 m133 m134 m135 m136 m137 m138 hz; exact absurd hz (Nat.not_lt_zero _)
                  | succ n119 ih123 =>
                    intro h121 hI fr fl122 m127 m128 m129 m130 m131 m132 m133 m134 m135 m136 m137 m138 hz
                    have s139 : (h121.1 2 1).toInt = (h41.1 2 1).toInt := by rw [(fl122 2 (by decide)).1]
                    have fl5 : FR [1] h h121 := fl5.trans fl122 (by decide)
                    refine R_aload_n (k := 0) rfl rfl rfl ?_
                    refine R_getf_i (j := 5) rfl ft_4_31 sh_1 rfl ?_
                    refine R_aload_n (k := 0) rfl rfl rfl ?_
                    refine R_getf_r (j := 0) rfl ft_4_12 sh_1 rfl ?_
                    refine R_getf_i (j := 1) rfl ft_4_135 sh_2 rfl ?_
                    refine N_icmp_ge (a := (h121.1 1 5).toInt) (b := (h121.1 2 1).toInt) 209 rfl rfl rfl rfl (fun c140 => ?_) (fun c140 => ?_)
                    · exact R_vret rfl rfl ⟨hI, fr, ⟨by omega, by omega, trivial⟩, rfl⟩
                    · refine R_aload_n (k := 0) rfl rfl rfl ?_
                      refine R_getf_r (j := 0) rfl ft_4_12 sh_1 rfl ?_
                      refine R_aload_n (k := 0) rfl rfl rfl ?_
                      refine R_getf_i (j := 5) rfl ft_4_31 sh_1 rfl ?_
                      refine R_callV (v := .inr (.inr (.inl 2))) (As := [.inl (h121.1 1 5)]) (rest := []) rfl mt_4_i127 pp_X7_byteAt (by decide) rfl rfl rfl (Nat.le_of_ble_eq_true rfl) (Nat.le_of_ble_eq_true rfl) ((k_X7_byteAt h121 hI (h121.1 1 5) (by omega)).mono (fun r141 h142 p143 => ?_))
                      obtain ⟨rfl, x144, rfl, q145⟩ := p143
                      show RUN d_X4_nextToken 155 [(0, .inr (.inr (.inl 1)))] [.inl x144] h121 _
                      refine R_callS (As := [.inl x144]) (rest := []) rfl mt_4_i137 (by decide) pp_X4_kindOf (by decide) rfl rfl (Nat.le_of_ble_eq_true rfl) (Nat.le_of_ble_eq_true rfl) ((k_X4_kindOf h121 hI x144).mono (fun r146 h147 p148 => ?_))
                      obtain ⟨rfl, x149, rfl, q150⟩ := p148
                      show RUN d_X4_nextToken 158 [(0, .inr (.inr (.inl 1)))] [.inl x149] h121 _
                      refine R_aload_n (k := 0) rfl rfl rfl ?_
                      refine R_getf_i (j := 3) rfl ft_4_25 sh_1 rfl ?_
                      refine N_icmp_ne (a := x149.toInt) (b := (h121.1 1 3).toInt) 209 rfl rfl rfl rfl (fun c151 => ?_) (fun c151 => ?_)
                      · exact R_vret rfl rfl ⟨hI, fr, ⟨by omega, by omega, trivial⟩, rfl⟩
                      · refine R_aload_n (k := 0) rfl rfl rfl ?_
                        refine R_ldc_i (x := 1000000) rfl kt_4_140 ?_
                        refine R_aload_n (k := 0) rfl rfl rfl ?_
                        refine R_getf_i (j := 6) rfl ft_4_34 sh_1 rfl ?_
                        refine R_bipush 10 rfl rfl ?_
                        have b152 := i_rng (h121.1 1 6)
                        refine R_imul rfl ?_
                        refine N_any (fun x153 => ?_)
                        refine R_aload_n (k := 0) rfl rfl rfl ?_
                        refine R_getf_r (j := 0) rfl ft_4_12 sh_1 rfl ?_
                        refine R_aload_n (k := 0) rfl rfl rfl ?_
                        refine R_getf_i (j := 5) rfl ft_4_31 sh_1 rfl ?_
                        refine R_callV (v := .inr (.inr (.inl 2))) (As := [.inl (h121.1 1 5)]) (rest := [.inl x153, .inl 1000000, .inr (.inr (.inl 1))]) rfl mt_4_i127 pp_X7_byteAt (by decide) rfl rfl rfl (Nat.le_of_ble_eq_true rfl) (Nat.le_of_ble_eq_true rfl) ((k_X7_byteAt h121 hI (h121.1 1 5) (by omega)).mono (fun r154 h155 p156 => ?_))
                        obtain ⟨rfl, x157, rfl, q158⟩ := p156
                        show RUN d_X4_nextToken 186 [(0, .inr (.inr (.inl 1)))] [.inl x157, .inl x153, .inl 1000000, .inr (.inr (.inl 1))] h121 _
                        have b159 := i_rng x153
                        have b160 := i_rng x157
                        refine R_iadd rfl ?_
                        refine N_any (fun x161 => ?_)
                        refine R_bipush 48 rfl rfl ?_
                        have b162 := i_rng x161
                        refine R_isub rfl ?_
                        refine N_any (fun x163 => ?_)
                        refine N_min (a := 1000000) (b := x163.toInt) rfl mt_4_i141 (by decide) rfl ⟨by decide, by decide, Nat.le_of_ble_eq_true rfl⟩ (fun x164 q165 => ?_)
                        refine K_putf (j := 6) (lo := (-2147483648)) (hi' := 2147483647) rfl ft_4_34 sh_1 rfl hI (by decide) rfl (i_rng _) fr (by decide) (fun h166 g167 hI fr => ?_)
                        have fl122 : FR [1] h41 h166 := by rw [g167]; exact FR_wI _ _ fl122 (by decide)
                        have fl5 : FR [1] h h166 := by rw [g167]; exact FR_wI _ _ fl5 (by decide)
                        have s168 : (h166.1 1 1).toInt = (h121.1 1 1).toInt := by rw [g167, wI_at (by decide)]
                        have s169 : (h166.1 1 2).toInt = (h121.1 1 2).toInt := by rw [g167, wI_at (by decide)]
                        have s170 : (h166.1 1 5).toInt = (h121.1 1 5).toInt := by rw [g167, wI_at (by decide)]
                        have s171 : (h166.1 2 1).toInt = (h121.1 2 1).toInt := by rw [g167, wI_ne _ _ _ (by decide)]
                        have s172 : (h166.1 1 4).toInt = (h121.1 1 4).toInt := by rw [g167, wI_at (by decide)]
                        have s173 : (h166.1 1 3).toInt = (h121.1 1 3).toInt := by rw [g167, wI_at (by decide)]
                        have s174 : (h166.1 1 6).toInt = x164.toInt := by rw [g167, wI_is]
                        refine R_aload_n (k := 0) rfl rfl rfl ?_
                        refine R_dup_r rfl ?_
                        refine R_getf_i (j := 5) rfl ft_4_31 sh_1 rfl ?_
                        refine R_iconst 1 rfl rfl ?_
                        refine N_iadd (a := (h166.1 1 5).toInt) (b := 1) rfl rfl (by decide) (by omega) (fun x175 q176 => ?_)
                        refine K_putf (j := 5) (lo := (-2147483648)) (hi' := 2147483647) rfl ft_4_31 sh_1 rfl hI (by decide) rfl (i_rng _) fr (by decide) (fun h177 g178 hI fr => ?_)
                        have fl122 : FR [1] h41 h177 := by rw [g178]; exact FR_wI _ _ fl122 (by decide)
                        have fl5 : FR [1] h h177 := by rw [g178]; exact FR_wI _ _ fl5 (by decide)
                        have s179 : (h177.1 1 1).toInt = (h166.1 1 1).toInt := by rw [g178, wI_at (by decide)]
                        have s180 : (h177.1 1 2).toInt = (h166.1 1 2).toInt := by rw [g178, wI_at (by decide)]
                        have s181 : (h177.1 2 1).toInt = (h166.1 2 1).toInt := by rw [g178, wI_ne _ _ _ (by decide)]
                        have s182 : (h177.1 1 4).toInt = (h166.1 1 4).toInt := by rw [g178, wI_at (by decide)]
                        have s183 : (h177.1 1 3).toInt = (h166.1 1 3).toInt := by rw [g178, wI_at (by decide)]
                        have s184 : (h177.1 1 6).toInt = (h166.1 1 6).toInt := by rw [g178, wI_at (by decide)]
                        have s185 : (h177.1 1 5).toInt = x175.toInt := by rw [g178, wI_is]
                        refine R_goto 130 rfl rfl ?_
                        exact RUN_weak (psub_cons rfl (psub_nil _)) (ih123 h177 hI fr fl122 (by omega) (by omega) (by omega) (by omega) (by omega) (by omega) (by omega) (by omega) (by omega) (by omega) (by omega) (by omega) (by omega))
                exact lp120 _ h41 hI fr (FR.rf _ _) rfl rfl rfl rfl (by omega) (by omega) (by omega) (by omega) (by omega) (by omega) (by omega) (by omega) (Nat.lt_succ_self _)
              · refine R_aload_n (k := 0) rfl rfl rfl ?_
                refine R_dup_r rfl ?_
                refine R_getf_i (j := 5) rfl ft_4_31 sh_1 rfl ?_
                refine R_iconst 1 rfl rfl ?_
                refine N_iadd (a := (h41.1 1 5).toInt) (b := 1) rfl rfl (by decide) (by omega) (fun x186 q187 => ?_)
                refine K_putf (j := 5) (lo := (-2147483648)) (hi' := 2147483647) rfl ft_4_31 sh_1 rfl hI (by decide) rfl (i_rng _) fr (by decide) (fun h188 g189 hI fr => ?_)
                have fl5 : FR [1] h h188 := by rw [g189]; exact FR_wI _ _ fl5 (by decide)
                have s190 : (h188.1 1 1).toInt = (h41.1 1 1).toInt := by rw [g189, wI_at (by decide)]
                have s191 : (h188.1 1 2).toInt = (h41.1 1 2).toInt := by rw [g189, wI_at (by decide)]
                have s192 : (h188.1 2 1).toInt = (h41.1 2 1).toInt := by rw [g189, wI_ne _ _ _ (by decide)]
                have s193 : (h188.1 1 4).toInt = (h41.1 1 4).toInt := by rw [g189, wI_at (by decide)]
                have s194 : (h188.1 1 3).toInt = (h41.1 1 3).toInt := by rw [g189, wI_at (by decide)]
                have s195 : (h188.1 1 6).toInt = (h41.1 1 6).toInt := by rw [g189, wI_at (by decide)]
                have s196 : (h188.1 1 5).toInt = x186.toInt := by rw [g189, wI_is]
                exact R_vret rfl rfl ⟨hI, fr, ⟨by omega, by omega, trivial⟩, rfl⟩
          · refine R_aload_n (k := 0) rfl rfl rfl ?_
            refine R_iconst 5 rfl rfl ?_
            refine K_putf (j := 3) (lo := (-2147483648)) (hi' := 2147483647) rfl ft_4_25 sh_1 rfl hI (by decide) rfl (by decide) fr (by decide) (fun h197 g198 hI fr => ?_)
            have fl5 : FR [1] h h197 := by rw [g198]; exact FR_wI _ _ fl5 (by decide)
            have s199 : (h197.1 1 1).toInt = (h15.1 1 1).toInt := by rw [g198, wI_at (by decide)]
            have s200 : (h197.1 1 2).toInt = (h15.1 1 2).toInt := by rw [g198, wI_at (by decide)]
            have s201 : (h197.1 1 5).toInt = (h15.1 1 5).toInt := by rw [g198, wI_at (by decide)]
            have s202 : (h197.1 2 1).toInt = (h15.1 2 1).toInt := by rw [g198, wI_ne _ _ _ (by decide)]
            have s203 : (h197.1 1 4).toInt = (h15.1 1 4).toInt := by rw [g198, wI_at (by decide)]
            have s204 : (h197.1 1 3).toInt = 5 := by rw [g198, wI_is]; rfl
            exact R_vret rfl rfl ⟨hI, fr, ⟨by omega, by omega, trivial⟩, rfl⟩
        · refine R_aload_n (k := 0) rfl rfl rfl ?_
          refine R_getf_r (j := 0) rfl ft_4_12 sh_1 rfl ?_
          refine R_aload_n (k := 0) rfl rfl rfl ?_
          refine R_getf_i (j := 5) rfl ft_4_31 sh_1 rfl ?_
          have b205 := i_rng (h4.1 1 5)
          refine R_callV (v := .inr (.inr (.inl 2))) (As := [.inl (h4.1 1 5)]) (rest := []) rfl mt_4_i127 pp_X7_byteAt (by decide) rfl rfl rfl (Nat.le_of_ble_eq_true rfl) (Nat.le_of_ble_eq_true rfl) ((k_X7_byteAt h4 hI (h4.1 1 5) (by omega)).mono (fun r206 h207 p208 => ?_))
          obtain ⟨rfl, x209, rfl, q210⟩ := p208
          show RUN d_X4_nextToken 33 [(0, .inr (.inr (.inl 1)))] [.inl x209] h4 _
          refine R_callS (As := [.inl x209]) (rest := []) rfl mt_4_i137 (by decide) pp_X4_kindOf (by decide) rfl rfl (Nat.le_of_ble_eq_true rfl) (Nat.le_of_ble_eq_true rfl) ((k_X4_kindOf h4 hI x209).mono (fun r211 h212 p213 => ?_))
          obtain ⟨rfl, x214, rfl, q215⟩ := p213
          show RUN d_X4_nextToken 36 [(0, .inr (.inr (.inl 1)))] [.inl x214] h4 _
          refine R_iconst 4 rfl rfl ?_
          refine N_icmp_ne (a := x214.toInt) (b := 4) 53 rfl rfl rfl (by decide) (fun c216 => ?_) (fun c216 => ?_)
          · refine R_aload_n (k := 0) rfl rfl rfl ?_
            refine R_aload_n (k := 0) rfl rfl rfl ?_
            refine R_getf_i (j := 5) rfl ft_4_31 sh_1 rfl ?_
            refine K_putf (j := 4) (lo := (-2147483648)) (hi' := 2147483647) rfl ft_4_28 sh_1 rfl hI (by decide) rfl (i_rng _) fr (by decide) (fun h217 g218 hI fr => ?_)
            have fl5 : FR [1] h h217 := by rw [g218]; exact FR_wI _ _ fl5 (by decide)
            have s219 : (h217.1 1 1).toInt = (h4.1 1 1).toInt := by rw [g218, wI_at (by decide)]
            have s220 : (h217.1 1 2).toInt = (h4.1 1 2).toInt := by rw [g218, wI_at (by decide)]
            have s221 : (h217.1 1 5).toInt = (h4.1 1 5).toInt := by rw [g218, wI_at (by decide)]
            have s222 : (h217.1 2 1).toInt = (h4.1 2 1).toInt := by rw [g218, wI_ne _ _ _ (by decide)]
            have s223 : (h217.1 1 4).toInt = (h4.1 1 5).toInt := by rw [g218, wI_is]
            refine R_aload_n (k := 0) rfl rfl rfl ?_
            refine R_getf_i (j := 5) rfl ft_4_31 sh_1 rfl ?_
            refine R_aload_n (k := 0) rfl rfl rfl ?_
            refine R_getf_r (j := 0) rfl ft_4_12 sh_1 rfl ?_
            refine R_getf_i (j := 1) rfl ft_4_135 sh_2 rfl ?_
            refine N_icmp_lt (a := (h217.1 1 5).toInt) (b := (h217.1 2 1).toInt) 81 rfl rfl rfl rfl (fun c224 => ?_) (fun c224 => ?_)
            · refine R_aload_n (k := 0) rfl rfl rfl ?_
              refine R_aload_n (k := 0) rfl rfl rfl ?_
              refine R_getf_r (j := 0) rfl ft_4_12 sh_1 rfl ?_
              refine R_aload_n (k := 0) rfl rfl rfl ?_
              refine R_getf_i (j := 5) rfl ft_4_31 sh_1 rfl ?_
              have b225 := i_rng (h217.1 1 5)
              refine R_callV (v := .inr (.inr (.inl 2))) (As := [.inl (h217.1 1 5)]) (rest := [.inr (.inr (.inl 1))]) rfl mt_4_i127 pp_X7_byteAt (by decide) rfl rfl rfl (Nat.le_of_ble_eq_true rfl) (Nat.le_of_ble_eq_true rfl) ((k_X7_byteAt h217 hI (h217.1 1 5) (by omega)).mono (fun r226 h227 p228 => ?_))
              obtain ⟨rfl, x229, rfl, q230⟩ := p228
              show RUN d_X4_nextToken 93 [(0, .inr (.inr (.inl 1)))] [.inl x229, .inr (.inr (.inl 1))] h217 _
              refine R_callS (As := [.inl x229]) (rest := [.inr (.inr (.inl 1))]) rfl mt_4_i137 (by decide) pp_X4_kindOf (by decide) rfl rfl (Nat.le_of_ble_eq_true rfl) (Nat.le_of_ble_eq_true rfl) ((k_X4_kindOf h217 hI x229).mono (fun r231 h232 p233 => ?_))
              obtain ⟨rfl, x234, rfl, q235⟩ := p233
              show RUN d_X4_nextToken 96 [(0, .inr (.inr (.inl 1)))] [.inl x234, .inr (.inr (.inl 1))] h217 _
              refine K_putf (j := 3) (lo := (-2147483648)) (hi' := 2147483647) rfl ft_4_25 sh_1 rfl hI (by decide) rfl (i_rng _) fr (by decide) (fun h236 g237 hI fr => ?_)
              have fl5 : FR [1] h h236 := by rw [g237]; exact FR_wI _ _ fl5 (by decide)
              have s238 : (h236.1 1 1).toInt = (h217.1 1 1).toInt := by rw [g237, wI_at (by decide)]
              have s239 : (h236.1 1 2).toInt = (h217.1 1 2).toInt := by rw [g237, wI_at (by decide)]
              have s240 : (h236.1 1 5).toInt = (h217.1 1 5).toInt := by rw [g237, wI_at (by decide)]
              have s241 : (h236.1 2 1).toInt = (h217.1 2 1).toInt := by rw [g237, wI_ne _ _ _ (by decide)]
              have s242 : (h236.1 1 4).toInt = (h217.1 1 4).toInt := by rw [g237, wI_at (by decide)]
              have s243 : (h236.1 1 3).toInt = x234.toInt := by rw [g237, wI_is]
              refine R_aload_n (k := 0) rfl rfl rfl ?_
              refine R_iconst 0 rfl rfl ?_
              refine K_putf (j := 6) (lo := (-2147483648)) (hi' := 2147483647) rfl ft_4_34 sh_1 rfl hI (by decide) rfl (by decide) fr (by decide) (fun h244 g245 hI fr => ?_)
              have fl5 : FR [1] h h244 := by rw [g245]; exact FR_wI _ _ fl5 (by decide)
              have s246 : (h244.1 1 1).toInt = (h236.1 1 1).toInt := by rw [g245, wI_at (by decide)]
              have s247 : (h244.1 1 2).toInt = (h236.1 1 2).toInt := by rw [g245, wI_at (by decide)]
              have s248 : (h244.1 1 5).toInt = (h236.1 1 5).toInt := by rw [g245, wI_at (by decide)]
              have s249 : (h244.1 2 1).toInt = (h236.1 2 1).toInt := by rw [g245, wI_ne _ _ _ (by decide)]
              have s250 : (h244.1 1 4).toInt = (h236.1 1 4).toInt := by rw [g245, wI_at (by decide)]
              have s251 : (h244.1 1 3).toInt = (h236.1 1 3).toInt := by rw [g245, wI_at (by decide)]
              have s252 : (h244.1 1 6).toInt = 0 := by rw [g245, wI_is]; rfl
              refine R_aload_n (k := 0) rfl rfl rfl ?_
              refine R_getf_i (j := 3) rfl ft_4_25 sh_1 rfl ?_
              refine N_if_eq (a := (h244.1 1 3).toInt) 130 rfl rfl rfl (fun c253 => ?_) (fun c253 => ?_)
              · have lp255 : ∀ (n254 : Nat) (h256 : PH), INV h256 → FR [1] h h256 → FR [1] h244 h256 → (h256.1 1 1).toInt = (h244.1 1 1).toInt → (h256.1 1 2).toInt = (h244.1 1 2).toInt → (h256.1 1 4).toInt = (h244.1 1 4).toInt → (h256.1 1 3).toInt = (h244.1 1 3).toInt → (h256.1 1 5).toInt ≤ 500 → (h256.1 1 6).toInt ≤ 1000000 → (h244.1 1 4).toInt ≤ (h256.1 1 5).toInt + 0 → (500 - (h256.1 1 5).toInt).toNat < n254 → RUN d_X4_nextToken 130 [(0, .inr (.inr (.inl 1)))] [] h256 (q_X4_nextToken h) := by
                  intro n254
                  induction n254 with
                  | zero => intro h256 m259 m260 m261 m262 m263 m264 m265 m266 m267 m268 hz; exact absurd hz (Nat.not_lt_zero _)
                  | succ n254 ih258 =>
                    intro h256 hI fr fl257 m262 m263 m264 m265 m266 m267 m268 hz
                    have s269 : (h256.1 2 1).toInt = (h244.1 2 1).toInt := by rw [(fl257 2 (by decide)).1]
                    have fl5 : FR [1] h h256 := fl5.trans fl257 (by decide)
                    refine R_aload_n (k := 0) rfl rfl rfl ?_
                    refine R_getf_i (j := 5) rfl ft_4_31 sh_1 rfl ?_
                    refine R_aload_n (k := 0) rfl rfl rfl ?_
                    refine R_getf_r (j := 0) rfl ft_4_12 sh_1 rfl ?_
                    refine R_getf_i (j := 1) rfl ft_4_135 sh_2 rfl ?_
                    refine N_icmp_ge (a := (h256.1 1 5).toInt) (b := (h256.1 2 1).toInt) 209 rfl rfl rfl rfl (fun c270 => ?_) (fun c270 => ?_)
                    · exact R_vret rfl rfl ⟨hI, fr, ⟨by omega, by omega, trivial⟩, rfl⟩
                    · refine R_aload_n (k := 0) rfl rfl rfl ?_
                      refine R_getf_r (j := 0) rfl ft_4_12 sh_1 rfl ?_
                      refine R_aload_n (k := 0) rfl rfl rfl ?_
                      refine R_getf_i (j := 5) rfl ft_4_31 sh_1 rfl ?_
                      have b271 := i_rng (h256.1 1 5)
                      refine R_callV (v := .inr (.inr (.inl 2))) (As := [.inl (h256.1 1 5)]) (rest := []) rfl mt_4_i127 pp_X7_byteAt (by decide) rfl rfl rfl (Nat.le_of_ble_eq_true rfl) (Nat.le_of_ble_eq_true rfl) ((k_X7_byteAt h256 hI (h256.1 1 5) (by omega)).mono (fun r272 h273 p274 => ?_))
                      obtain ⟨rfl, x275, rfl, q276⟩ := p274
                      show RUN d_X4_nextToken 155 [(0, .inr (.inr (.inl 1)))] [.inl x275] h256 _
                      refine R_callS (As := [.inl x275]) (rest := []) rfl mt_4_i137 (by decide) pp_X4_kindOf (by decide) rfl rfl (Nat.le_of_ble_eq_true rfl) (Nat.le_of_ble_eq_true rfl) ((k_X4_kindOf h256 hI x275).mono (fun r277 h278 p279 => ?_))
                      obtain ⟨rfl, x280, rfl, q281⟩ := p279
                      show RUN d_X4_nextToken 158 [(0, .inr (.inr (.inl 1)))] [.inl x280] h256 _
                      refine R_aload_n (k := 0) rfl rfl rfl ?_
                      refine R_getf_i (j := 3) rfl ft_4_25 sh_1 rfl ?_
                      refine N_icmp_ne (a := x280.toInt) (b := (h256.1 1 3).toInt) 209 rfl rfl rfl rfl (fun c282 => ?_) (fun c282 => ?_)
                      · exact R_vret rfl rfl ⟨hI, fr, ⟨by omega, by omega, trivial⟩, rfl⟩
                      · refine R_aload_n (k := 0) rfl rfl rfl ?_
                        refine R_ldc_i (x := 1000000) rfl kt_4_140 ?_
                        refine R_aload_n (k := 0) rfl rfl rfl ?_
                        refine R_getf_i (j := 6) rfl ft_4_34 sh_1 rfl ?_
                        refine R_bipush 10 rfl rfl ?_
                        have b283 := i_rng (h256.1 1 6)
                        refine R_imul rfl ?_
                        refine N_any (fun x284 => ?_)
                        refine R_aload_n (k := 0) rfl rfl rfl ?_
                        refine R_getf_r (j := 0) rfl ft_4_12 sh_1 rfl ?_
                        refine R_aload_n (k := 0) rfl rfl rfl ?_
                        refine R_getf_i (j := 5) rfl ft_4_31 sh_1 rfl ?_
                        have b285 := i_rng (h256.1 1 5)
                        refine R_callV (v := .inr (.inr (.inl 2))) (As := [.inl (h256.1 1 5)]) (rest := [.inl x284, .inl 1000000, .inr (.inr (.inl 1))]) rfl mt_4_i127 pp_X7_byteAt (by decide) rfl rfl rfl (Nat.le_of_ble_eq_true rfl) (Nat.le_of_ble_eq_true rfl) ((k_X7_byteAt h256 hI (h256.1 1 5) (by omega)).mono (fun r286 h287 p288 => ?_))
                        obtain ⟨rfl, x289, rfl, q290⟩ := p288
                        show RUN d_X4_nextToken 186 [(0, .inr (.inr (.inl 1)))] [.inl x289, .inl x284, .inl 1000000, .inr (.inr (.inl 1))] h256 _
                        have b291 := i_rng x284
                        have b292 := i_rng x289
                        refine R_iadd rfl ?_
                        refine N_any (fun x293 => ?_)
                        refine R_bipush 48 rfl rfl ?_
                        have b294 := i_rng x293
                        refine R_isub rfl ?_
                        refine N_any (fun x295 => ?_)
                        refine N_min (a := 1000000) (b := x295.toInt) rfl mt_4_i141 (by decide) rfl ⟨by decide, by decide, Nat.le_of_ble_eq_true rfl⟩ (fun x296 q297 => ?_)
                        refine K_putf (j := 6) (lo := (-2147483648)) (hi' := 2147483647) rfl ft_4_34 sh_1 rfl hI (by decide) rfl (i_rng _) fr (by decide) (fun h298 g299 hI fr => ?_)
                        have fl257 : FR [1] h244 h298 := by rw [g299]; exact FR_wI _ _ fl257 (by decide)
                        have fl5 : FR [1] h h298 := by rw [g299]; exact FR_wI _ _ fl5 (by decide)
                        have s300 : (h298.1 1 1).toInt = (h256.1 1 1).toInt := by rw [g299, wI_at (by decide)]
                        have s301 : (h298.1 1 2).toInt = (h256.1 1 2).toInt := by rw [g299, wI_at (by decide)]
                        have s302 : (h298.1 1 5).toInt = (h256.1 1 5).toInt := by rw [g299, wI_at (by decide)]
                        have s303 : (h298.1 2 1).toInt = (h256.1 2 1).toInt := by rw [g299, wI_ne _ _ _ (by decide)]
                        have s304 : (h298.1 1 4).toInt = (h256.1 1 4).toInt := by rw [g299, wI_at (by decide)]
                        have s305 : (h298.1 1 3).toInt = (h256.1 1 3).toInt := by rw [g299, wI_at (by decide)]
                        have s306 : (h298.1 1 6).toInt = x296.toInt := by rw [g299, wI_is]
                        refine R_aload_n (k := 0) rfl rfl rfl ?_
                        refine R_dup_r rfl ?_
                        refine R_getf_i (j := 5) rfl ft_4_31 sh_1 rfl ?_
                        refine R_iconst 1 rfl rfl ?_
                        have b307 := i_rng (h298.1 1 5)
                        refine N_iadd (a := (h298.1 1 5).toInt) (b := 1) rfl rfl (by decide) (by omega) (fun x308 q309 => ?_)
                        refine K_putf (j := 5) (lo := (-2147483648)) (hi' := 2147483647) rfl ft_4_31 sh_1 rfl hI (by decide) rfl (i_rng _) fr (by decide) (fun h310 g311 hI fr => ?_)
                        have fl257 : FR [1] h244 h310 := by rw [g311]; exact FR_wI _ _ fl257 (by decide)
                        have fl5 : FR [1] h h310 := by rw [g311]; exact FR_wI _ _ fl5 (by decide)
                        have s312 : (h310.1 1 1).toInt = (h298.1 1 1).toInt := by rw [g311, wI_at (by decide)]
                        have s313 : (h310.1 1 2).toInt = (h298.1 1 2).toInt := by rw [g311, wI_at (by decide)]
                        have s314 : (h310.1 2 1).toInt = (h298.1 2 1).toInt := by rw [g311, wI_ne _ _ _ (by decide)]
                        have s315 : (h310.1 1 4).toInt = (h298.1 1 4).toInt := by rw [g311, wI_at (by decide)]
                        have s316 : (h310.1 1 3).toInt = (h298.1 1 3).toInt := by rw [g311, wI_at (by decide)]
                        have s317 : (h310.1 1 6).toInt = (h298.1 1 6).toInt := by rw [g311, wI_at (by decide)]
                        have s318 : (h310.1 1 5).toInt = x308.toInt := by rw [g311, wI_is]
                        refine R_goto 130 rfl rfl ?_
                        exact RUN_weak (psub_cons rfl (psub_nil _)) (ih258 h310 hI fr fl257 (by omega) (by omega) (by omega) (by omega) (by omega) (by omega) (by omega) (by omega))
                exact lp255 _ h244 hI fr (FR.rf _ _) rfl rfl rfl rfl (by omega) (by omega) (by omega) (Nat.lt_succ_self _)
              · refine R_aload_n (k := 0) rfl rfl rfl ?_
                refine R_getf_i (j := 3) rfl ft_4_25 sh_1 rfl ?_
                refine R_iconst 1 rfl rfl ?_
                refine N_icmp_eq (a := (h244.1 1 3).toInt) (b := 1) 130 rfl rfl rfl (by decide) (fun c319 => ?_) (fun c319 => ?_)
                · have lp321 : ∀ (n320 : Nat) (h322 : PH), INV h322 → FR [1] h h322 → FR [1] h244 h322 → (h322.1 1 1).toInt = (h244.1 1 1).toInt → (h322.1 1 2).toInt = (h244.1 1 2).toInt → (h322.1 1 4).toInt = (h244.1 1 4).toInt → (h322.1 1 3).toInt = (h244.1 1 3).toInt → (h322.1 1 5).toInt ≤ 500 → (h322.1 1 6).toInt ≤ 1000000 → (h244.1 1 4).toInt ≤ (h322.1 1 5).toInt + 0 → (500 - (h322.1 1 5).toInt).toNat < n320 → RUN d_X4_nextToken 130 [(0, .inr (.inr (.inl 1)))] [] h322 (q_X4_nextToken h) := by
                    intro n320
                    induction n320 with
                    | zero => intro h322 m325 m326 m327 m328 m329 m330 m331 m332 m333 m334 hz; exact absurd hz (Nat.not_lt_zero _)
                    | succ n320 ih324 =>
                      intro h322 hI fr fl323 m328 m329 m330 m331 m332 m333 m334 hz
                      have s335 : (h322.1 2 1).toInt = (h244.1 2 1).toInt := by rw [(fl323 2 (by decide)).1]
                      have fl5 : FR [1] h h322 := fl5.trans fl323 (by decide)
                      refine R_aload_n (k := 0) rfl rfl rfl ?_
                      refine R_getf_i (j := 5) rfl ft_4_31 sh_1 rfl ?_
                      refine R_aload_n (k := 0) rfl rfl rfl ?_
                      refine R_getf_r (j := 0) rfl ft_4_12 sh_1 rfl ?_
                      refine R_getf_i (j := 1) rfl ft_4_135 sh_2 rfl ?_
                      refine N_icmp_ge (a := (h322.1 1 5).toInt) (b := (h322.1 2 1).toInt) 209 rfl rfl rfl rfl (fun c336 => ?_) (fun c336 => ?_)
                      · exact R_vret rfl rfl ⟨hI, fr, ⟨by omega, by omega, trivial⟩, rfl⟩
                      · refine R_aload_n (k := 0) rfl rfl rfl ?_
                        refine R_getf_r (j := 0) rfl ft_4_12 sh_1 rfl ?_
                        refine R_aload_n (k := 0) rfl rfl rfl ?_
                        refine R_getf_i (j := 5) rfl ft_4_31 sh_1 rfl ?_
                        have b337 := i_rng (h322.1 1 5)
                        refine R_callV (v := .inr (.inr (.inl 2))) (As := [.inl (h322.1 1 5)]) (rest := []) rfl mt_4_i127 pp_X7_byteAt (by decide) rfl rfl rfl (Nat.le_of_ble_eq_true rfl) (Nat.le_of_ble_eq_true rfl) ((k_X7_byteAt h322 hI (h322.1 1 5) (by omega)).mono (fun r338 h339 p340 => ?_))
                        obtain ⟨rfl, x341, rfl, q342⟩ := p340
                        show RUN d_X4_nextToken 155 [(0, .inr (.inr (.inl 1)))] [.inl x341] h322 _
                        refine R_callS (As := [.inl x341]) (rest := []) rfl mt_4_i137 (by decide) pp_X4_kindOf (by decide) rfl rfl (Nat.le_of_ble_eq_true rfl) (Nat.le_of_ble_eq_true rfl) ((k_X4_kindOf h322 hI x341).mono (fun r343 h344 p345 => ?_))
                        obtain ⟨rfl, x346, rfl, q347⟩ := p345
                        show RUN d_X4_nextToken 158 [(0, .inr (.inr (.inl 1)))] [.inl x346] h322 _
                        refine R_aload_n (k := 0) rfl rfl rfl ?_
                        refine R_getf_i (j := 3) rfl ft_4_25 sh_1 rfl ?_
                        refine N_icmp_ne (a := x346.toInt) (b := (h322.1 1 3).toInt) 209 rfl rfl rfl rfl (fun c348 => ?_) (fun c348 => ?_)
                        · exact R_vret rfl rfl ⟨hI, fr, ⟨by omega, by omega, trivial⟩, rfl⟩
                        · refine R_aload_n (k := 0) rfl rfl rfl ?_
                          refine R_ldc_i (x := 1000000) rfl kt_4_140 ?_
                          refine R_aload_n (k := 0) rfl rfl rfl ?_
                          refine R_getf_i (j := 6) rfl ft_4_34 sh_1 rfl ?_
                          refine R_bipush 10 rfl rfl ?_
                          have b349 := i_rng (h322.1 1 6)
                          refine R_imul rfl ?_
                          refine N_any (fun x350 => ?_)
                          refine R_aload_n (k := 0) rfl rfl rfl ?_
                          refine R_getf_r (j := 0) rfl ft_4_12 sh_1 rfl ?_
                          refine R_aload_n (k := 0) rfl rfl rfl ?_
                          refine R_getf_i (j := 5) rfl ft_4_31 sh_1 rfl ?_
                          have b351 := i_rng (h322.1 1 5)
                          refine R_callV (v := .inr (.inr (.inl 2))) (As := [.inl (h322.1 1 5)]) (rest := [.inl x350, .inl 1000000, .inr (.inr (.inl 1))]) rfl mt_4_i127 pp_X7_byteAt (by decide) rfl rfl rfl (Nat.le_of_ble_eq_true rfl) (Nat.le_of_ble_eq_true rfl) ((k_X7_byteAt h322 hI (h322.1 1 5) (by omega)).mono (fun r352 h353 p354 => ?_))
                          obtain ⟨rfl, x355, rfl, q356⟩ := p354
                          show RUN d_X4_nextToken 186 [(0, .inr (.inr (.inl 1)))] [.inl x355, .inl x350, .inl 1000000, .inr (.inr (.inl 1))] h322 _
                          have b357 := i_rng x350
                          have b358 := i_rng x355
                          refine R_iadd rfl ?_
                          refine N_any (fun x359 => ?_)
                          refine R_bipush 48 rfl rfl ?_
                          have b360 := i_rng x359
                          refine R_isub rfl ?_
                          refine N_any (fun x361 => ?_)
                          refine N_min (a := 1000000) (b := x361.toInt) rfl mt_4_i141 (by decide) rfl ⟨by decide, by decide, Nat.le_of_ble_eq_true rfl⟩ (fun x362 q363 => ?_)
                          refine K_putf (j := 6) (lo := (-2147483648)) (hi' := 2147483647) rfl ft_4_34 sh_1 rfl hI (by decide) rfl (i_rng _) fr (by decide) (fun h364 g365 hI fr => ?_)
                          have fl323 : FR [1] h244 h364 := by rw [g365]; exact FR_wI _ _ fl323 (by decide)
                          have fl5 : FR [1] h h364 := by rw [g365]; exact FR_wI _ _ fl5 (by decide)
                          have s366 : (h364.1 1 1).toInt = (h322.1 1 1).toInt := by rw [g365, wI_at (by decide)]
                          have s367 : (h364.1 1 2).toInt = (h322.1 1 2).toInt := by rw [g365, wI_at (by decide)]
                          have s368 : (h364.1 1 5).toInt = (h322.1 1 5).toInt := by rw [g365, wI_at (by decide)]
                          have s369 : (h364.1 2 1).toInt = (h322.1 2 1).toInt := by rw [g365, wI_ne _ _ _ (by decide)]
                          have s370 : (h364.1 1 4).toInt = (h322.1 1 4).toInt := by rw [g365, wI_at (by decide)]
                          have s371 : (h364.1 1 3).toInt = (h322.1 1 3).toInt := by rw [g365, wI_at (by decide)]
                          have s372 : (h364.1 1 6).toInt = x362.toInt := by rw [g365, wI_is]
                          refine R_aload_n (k := 0) rfl rfl rfl ?_
                          refine R_dup_r rfl ?_
                          refine R_getf_i (j := 5) rfl ft_4_31 sh_1 rfl ?_
                          refine R_iconst 1 rfl rfl ?_
                          have b373 := i_rng (h364.1 1 5)
                          refine N_iadd (a := (h364.1 1 5).toInt) (b := 1) rfl rfl (by decide) (by omega) (fun x374 q375 => ?_)
                          refine K_putf (j := 5) (lo := (-2147483648)) (hi' := 2147483647) rfl ft_4_31 sh_1 rfl hI (by decide) rfl (i_rng _) fr (by decide) (fun h376 g377 hI fr => ?_)
                          have fl323 : FR [1] h244 h376 := by rw [g377]; exact FR_wI _ _ fl323 (by decide)
                          have fl5 : FR [1] h h376 := by rw [g377]; exact FR_wI _ _ fl5 (by decide)
                          have s378 : (h376.1 1 1).toInt = (h364.1 1 1).toInt := by rw [g377, wI_at (by decide)]
                          have s379 : (h376.1 1 2).toInt = (h364.1 1 2).toInt := by rw [g377, wI_at (by decide)]
                          have s380 : (h376.1 2 1).toInt = (h364.1 2 1).toInt := by rw [g377, wI_ne _ _ _ (by decide)]
                          have s381 : (h376.1 1 4).toInt = (h364.1 1 4).toInt := by rw [g377, wI_at (by decide)]
                          have s382 : (h376.1 1 3).toInt = (h364.1 1 3).toInt := by rw [g377, wI_at (by decide)]
                          have s383 : (h376.1 1 6).toInt = (h364.1 1 6).toInt := by rw [g377, wI_at (by decide)]
                          have s384 : (h376.1 1 5).toInt = x374.toInt := by rw [g377, wI_is]
                          refine R_goto 130 rfl rfl ?_
                          exact RUN_weak (psub_cons rfl (psub_nil _)) (ih324 h376 hI fr fl323 (by omega) (by omega) (by omega) (by omega) (by omega) (by omega) (by omega) (by omega))
                  exact lp321 _ h244 hI fr (FR.rf _ _) rfl rfl rfl rfl (by omega) (by omega) (by omega) (Nat.lt_succ_self _)
                · refine R_aload_n (k := 0) rfl rfl rfl ?_
                  refine R_dup_r rfl ?_
                  refine R_getf_i (j := 5) rfl ft_4_31 sh_1 rfl ?_
                  refine R_iconst 1 rfl rfl ?_
                  have b385 := i_rng (h244.1 1 5)
                  refine N_iadd (a := (h244.1 1 5).toInt) (b := 1) rfl rfl (by decide) (by omega) (fun x386 q387 => ?_)
                  refine K_putf (j := 5) (lo := (-2147483648)) (hi' := 2147483647) rfl ft_4_31 sh_1 rfl hI (by decide) rfl (i_rng _) fr (by decide) (fun h388 g389 hI fr => ?_)
                  have fl5 : FR [1] h h388 := by rw [g389]; exact FR_wI _ _ fl5 (by decide)
                  have s390 : (h388.1 1 1).toInt = (h244.1 1 1).toInt := by rw [g389, wI_at (by decide)]
                  have s391 : (h388.1 1 2).toInt = (h244.1 1 2).toInt := by rw [g389, wI_at (by decide)]
                  have s392 : (h388.1 2 1).toInt = (h244.1 2 1).toInt := by rw [g389, wI_ne _ _ _ (by decide)]
                  have s393 : (h388.1 1 4).toInt = (h244.1 1 4).toInt := by rw [g389, wI_at (by decide)]
                  have s394 : (h388.1 1 3).toInt = (h244.1 1 3).toInt := by rw [g389, wI_at (by decide)]
                  have s395 : (h388.1 1 6).toInt = (h244.1 1 6).toInt := by rw [g389, wI_at (by decide)]
                  have s396 : (h388.1 1 5).toInt = x386.toInt := by rw [g389, wI_is]
                  exact R_vret rfl rfl ⟨hI, fr, ⟨by omega, by omega, trivial⟩, rfl⟩
            · refine R_aload_n (k := 0) rfl rfl rfl ?_
              refine R_iconst 5 rfl rfl ?_
              refine K_putf (j := 3) (lo := (-2147483648)) (hi' := 2147483647) rfl ft_4_25 sh_1 rfl hI (by decide) rfl (by decide) fr (by decide) (fun h397 g398 hI fr => ?_)
              have fl5 : FR [1] h h397 := by rw [g398]; exact FR_wI _ _ fl5 (by decide)
              have s399 : (h397.1 1 1).toInt = (h217.1 1 1).toInt := by rw [g398, wI_at (by decide)]
              have s400 : (h397.1 1 2).toInt = (h217.1 1 2).toInt := by rw [g398, wI_at (by decide)]
              have s401 : (h397.1 1 5).toInt = (h217.1 1 5).toInt := by rw [g398, wI_at (by decide)]
              have s402 : (h397.1 2 1).toInt = (h217.1 2 1).toInt := by rw [g398, wI_ne _ _ _ (by decide)]
              have s403 : (h397.1 1 4).toInt = (h217.1 1 4).toInt := by rw [g398, wI_at (by decide)]
              have s404 : (h397.1 1 3).toInt = 5 := by rw [g398, wI_is]; rfl
              exact R_vret rfl rfl ⟨hI, fr, ⟨by omega, by omega, trivial⟩, rfl⟩
          · refine R_aload_n (k := 0) rfl rfl rfl ?_
            refine R_dup_r rfl ?_
            refine R_getf_i (j := 5) rfl ft_4_31 sh_1 rfl ?_
            refine R_iconst 1 rfl rfl ?_
            have b405 := i_rng (h4.1 1 5)
            refine N_iadd (a := (h4.1 1 5).toInt) (b := 1) rfl rfl (by decide) (by omega) (fun x406 q407 => ?_)
            refine K_putf (j := 5) (lo := (-2147483648)) (hi' := 2147483647) rfl ft_4_31 sh_1 rfl hI (by decide) rfl (i_rng _) fr (by decide) (fun h408 g409 hI fr => ?_)
            have fl5 : FR [1] h h408 := by rw [g409]; exact FR_wI _ _ fl5 (by decide)
            have s410 : (h408.1 1 1).toInt = (h4.1 1 1).toInt := by rw [g409, wI_at (by decide)]
            have s411 : (h408.1 1 2).toInt = (h4.1 1 2).toInt := by rw [g409, wI_at (by decide)]
            have s412 : (h408.1 2 1).toInt = (h4.1 2 1).toInt := by rw [g409, wI_ne _ _ _ (by decide)]
            have s413 : (h408.1 1 5).toInt = x406.toInt := by rw [g409, wI_is]
            refine R_goto 8 rfl rfl ?_
            exact RUN_weak (psub_cons rfl (psub_nil _)) (ih6 h408 hI fr fl5 (by omega) (by omega) trivial (by omega))
    exact lp3 _ h hI fr (FR.rf _ _) rfl rfl trivial (Nat.lt_succ_self _)
  · exact R_vret rfl rfl ⟨hI, fr, ⟨by omega, by omega, trivial⟩, rfl⟩
abbrev q_X8_forget (h : PH)  : Option PV → PH → Prop := fun r h' => INV h' ∧ FR [0] h h' ∧ (True) ∧ r = none
set_option maxHeartbeats 4000000 in
set_option maxRecDepth 100000 in
theorem k_X8_forget (h : PH) (hI : INV h)  : CALL d_X8_forget [.inr (.inr (.inl 0))] h (q_X8_forget h) := by
  show RUN d_X8_forget 0 [(0, .inr (.inr (.inl 0)))] [] h _
  have fr : FR [0] h h := FR.rf _ _
  refine R_aload_n (k := 0) rfl rfl rfl ?_
  refine R_iconst 0 rfl rfl ?_
  refine K_putz (j := 11) rfl ft_8_74 sh_0 rfl (by decide) hI (by decide) rfl fr (by decide) (fun h1 g2 hI fr => ?_)
  have s3 : (h1.1 0 11).toInt = 0 := by rw [g2, wI_is]; rfl
  refine R_aload_n (k := 0) rfl rfl rfl ?_
  refine R_iconst 0 rfl rfl ?_
  refine K_putz (j := 13) rfl ft_8_81 sh_0 rfl (by decide) hI (by decide) rfl fr (by decide) (fun h4 g5 hI fr => ?_)
  have s6 : (h4.1 0 11).toInt = (h1.1 0 11).toInt := by rw [g5, wI_at (by decide)]
  have s7 : (h4.1 0 13).toInt = 0 := by rw [g5, wI_is]; rfl
  exact R_vret rfl rfl ⟨hI, fr, trivial, rfl⟩
abbrev q_X9_brigade (h : PH)  : Option PV → PH → Prop := fun r h' => INV h' ∧ FR [96] h h' ∧ (True) ∧ ∃ z : Int32, r = some (.inl z) ∧ ((True))
theorem k_X9_brigade (h : PH) (hI : INV h)  : CALL d_X9_brigade [.inr (.inr (.inl 96))] h (q_X9_brigade h) := by sorry
abbrev q_X8_fault (h : PH) (a0 : Int32) : Option PV → PH → Prop := fun r h' => h = h' ∧ ∃ z : Int32, r = some (.inl z) ∧ ((True))
set_option maxHeartbeats 4000000 in
set_option maxRecDepth 100000 in
theorem k_X8_fault (h : PH) (hI : INV h) (a0 : Int32) : CALL d_X8_fault [.inr (.inr (.inl 0)), .inl a0] h (q_X8_fault h a0) := by
  show RUN d_X8_fault 0 [(0, .inr (.inr (.inl 0))), (1, .inl a0)] [] h _
  have b1 := i_rng a0
  refine R_iload_n (k := 1) rfl rfl rfl ?_
  refine N_if_ne (a := a0.toInt) 12 rfl rfl rfl (fun c2 => ?_) (fun c2 => ?_)
  · refine R_iload_n (k := 1) rfl rfl rfl ?_
    refine R_iconst 1 rfl rfl ?_
    refine N_icmp_ne (a := a0.toInt) (b := 1) 27 rfl rfl rfl (by decide) (fun c3 => ?_) (fun c3 => ?_)
    · refine R_iconst (-1) rfl rfl ?_
      exact R_iret rfl rfl rfl ⟨rfl, _, rfl, trivial⟩
    · refine R_aload_n (k := 0) rfl rfl rfl ?_
      refine R_getf_r (j := 0) rfl ft_8_10 sh_0 rfl ?_
      refine R_getf_i (j := 2) rfl ft_8_116 sh_1 rfl ?_
      refine R_goto 28 rfl rfl ?_
      exact R_iret rfl rfl rfl ⟨rfl, _, rfl, trivial⟩
  · refine R_aload_n (k := 0) rfl rfl rfl ?_
    refine R_getf_r (j := 0) rfl ft_8_10 sh_0 rfl ?_
    refine R_getf_i (j := 1) rfl ft_8_113 sh_1 rfl ?_
    exact R_iret rfl rfl rfl ⟨rfl, _, rfl, trivial⟩
abbrev q_X9_fault (h : PH) (a0 : Int32) : Option PV → PH → Prop := fun r h' => h = h' ∧ ∃ z : Int32, r = some (.inl z) ∧ ((True))
set_option maxHeartbeats 4000000 in
set_option maxRecDepth 100000 in
theorem k_X9_fault (h : PH) (hI : INV h) (a0 : Int32) : CALL d_X9_fault [.inr (.inr (.inl 96)), .inl a0] h (q_X9_fault h a0) := by
  show RUN d_X9_fault 0 [(0, .inr (.inr (.inl 96))), (1, .inl a0)] [] h _
  have b1 := i_rng a0
  refine R_iload_n (k := 1) rfl rfl rfl ?_
  refine N_if_ne (a := a0.toInt) 11 rfl rfl rfl (fun c2 => ?_) (fun c2 => ?_)
  · refine R_iload_n (k := 1) rfl rfl rfl ?_
    refine R_iconst 1 rfl rfl ?_
    refine N_icmp_ne (a := a0.toInt) (b := 1) 23 rfl rfl rfl (by decide) (fun c3 => ?_) (fun c3 => ?_)
    · refine R_iconst (-1) rfl rfl ?_
      exact R_iret rfl rfl rfl ⟨rfl, _, rfl, trivial⟩
    · refine R_aload_n (k := 0) rfl rfl rfl ?_
      refine R_getf_i (j := 13) rfl ft_9_27 sh_96 rfl ?_
      refine R_goto 24 rfl rfl ?_
      exact R_iret rfl rfl rfl ⟨rfl, _, rfl, trivial⟩
  · refine R_aload_n (k := 0) rfl rfl rfl ?_
    refine R_getf_i (j := 12) rfl ft_9_173 sh_96 rfl ?_
    refine R_goto 24 rfl rfl ?_
    exact R_iret rfl rfl rfl ⟨rfl, _, rfl, trivial⟩
abbrev q_X1_hasHand (h : PH) (a0 : Int32) : Option PV → PH → Prop := fun r h' => h = h' ∧ ∃ z : Int32, r = some (.inl z) ∧ ((z.toInt = 0 ∧ a0.toInt ≤ (-1)) ∨ (z.toInt = 0 ∧ 0 ≤ a0.toInt ∧ (h.1 17 5).toInt ≤ a0.toInt + 0) ∨ (z.toInt = 1 ∧ 0 ≤ a0.toInt ∧ a0.toInt ≤ 5 ∧ 1 ≤ (h.1 17 5).toInt ∧ (h.1 17 5).toInt ≤ 6 ∧ a0.toInt ≤ (h.1 17 5).toInt + (-1)))
set_option maxHeartbeats 4000000 in
set_option maxRecDepth 100000 in
theorem k_X1_hasHand (h : PH) (hI : INV h) (a0 : Int32) : CALL d_X1_hasHand [.inr (.inr (.inl 16)), .inl a0] h (q_X1_hasHand h a0) := by
  show RUN d_X1_hasHand 0 [(0, .inr (.inr (.inl 16))), (1, .inl a0)] [] h _
  have b1 := i_rng a0
  refine R_iload_n (k := 1) rfl rfl rfl ?_
  refine N_if_lt (a := a0.toInt) 18 rfl rfl rfl (fun c2 => ?_) (fun c2 => ?_)
  · refine R_iconst 0 rfl rfl ?_
    exact R_iret rfl rfl rfl ⟨rfl, _, rfl, by rw [show (0 : Int32).toInt = 0 from rfl]; omega⟩
  · refine R_iload_n (k := 1) rfl rfl rfl ?_
    refine R_aload_n (k := 0) rfl rfl rfl ?_
    refine R_getf_r (j := 0) rfl ft_1_9 sh_16 rfl ?_
    refine R_iconst 5 rfl rfl ?_
    refine R_iald rfl sh_17 (by decide) ?_
    have b3 : (0 : Int) ≤ (h.1 17 5).toInt ∧ (h.1 17 5).toInt ≤ 6 := hI.1 17 5
    show RUN d_X1_hasHand 11 [(0, .inr (.inr (.inl 16))), (1, .inl a0)] [.inl (h.1 17 5), .inl a0] h _
    refine N_icmp_ge (a := a0.toInt) (b := (h.1 17 5).toInt) 18 rfl rfl rfl rfl (fun c4 => ?_) (fun c4 => ?_)
    · refine R_iconst 0 rfl rfl ?_
      exact R_iret rfl rfl rfl ⟨rfl, _, rfl, by rw [show (0 : Int32).toInt = 0 from rfl]; omega⟩
    · refine R_iconst 1 rfl rfl ?_
      refine R_goto 19 rfl rfl ?_
      exact R_iret rfl rfl rfl ⟨rfl, _, rfl, by rw [show (1 : Int32).toInt = 1 from rfl]; omega⟩
abbrev q_X8_isEither (h : PH) (a0 : Int32) : Option PV → PH → Prop := fun r h' => h = h' ∧ ∃ z : Int32, r = some (.inl z) ∧ ((z.toInt = 1 ∧ a0.toInt = 0) ∨ (z.toInt = 0) ∨ (z.toInt = 1 ∧ a0.toInt = 1))
set_option maxHeartbeats 4000000 in
set_option maxRecDepth 100000 in
theorem k_X8_isEither (h : PH) (hI : INV h) (a0 : Int32) : CALL d_X8_isEither [.inl a0] h (q_X8_isEither h a0) := by
  show RUN d_X8_isEither 0 [(0, .inl a0)] [] h _
  have b1 := i_rng a0
  refine R_iload_n (k := 0) rfl rfl rfl ?_
  refine N_if_eq (a := a0.toInt) 9 rfl rfl rfl (fun c2 => ?_) (fun c2 => ?_)
  · refine R_iconst 1 rfl rfl ?_
    refine R_goto 14 rfl rfl ?_
    exact R_iret rfl rfl rfl ⟨rfl, _, rfl, by rw [show (1 : Int32).toInt = 1 from rfl]; omega⟩
  · refine R_iload_n (k := 0) rfl rfl rfl ?_
    refine R_iconst 1 rfl rfl ?_
    refine N_icmp_ne (a := a0.toInt) (b := 1) 13 rfl rfl rfl (by decide) (fun c3 => ?_) (fun c3 => ?_)
    · refine R_iconst 0 rfl rfl ?_
      exact R_iret rfl rfl rfl ⟨rfl, _, rfl, by rw [show (0 : Int32).toInt = 0 from rfl]; omega⟩
    · refine R_iconst 1 rfl rfl ?_
      refine R_goto 14 rfl rfl ?_
      exact R_iret rfl rfl rfl ⟨rfl, _, rfl, by rw [show (1 : Int32).toInt = 1 from rfl]; omega⟩
abbrev q_X8_hand (h : PH) (a0 : Int32) (a1 : Int32) : Option PV → PH → Prop := fun r h' => h = h' ∧ ∃ z : Int32, r = some (.inl z) ∧ ((True))
set_option maxHeartbeats 4000000 in
set_option maxRecDepth 100000 in
theorem k_X8_hand (h : PH) (hI : INV h) (a0 : Int32) (a1 : Int32) : CALL d_X8_hand [.inr (.inr (.inl 0)), .inl a0, .inl a1] h (q_X8_hand h a0 a1) := by
  show RUN d_X8_hand 0 [(0, .inr (.inr (.inl 0))), (1, .inl a0), (2, .inl a1)] [] h _
  have b1 := i_rng a0
  have b2 := i_rng a1
  refine R_aload_n (k := 0) rfl rfl rfl ?_
  refine R_getf_r (j := 3) rfl ft_8_28 sh_0 rfl ?_
  refine R_iload_n (k := 1) rfl rfl rfl ?_
  have b3 : (0 : Int) ≤ (h.1 17 5).toInt ∧ (h.1 17 5).toInt ≤ 6 := hI.1 17 5
  refine R_callV (v := .inr (.inr (.inl 16))) (As := [.inl a0]) (rest := []) rfl mt_8_i119 pp_X1_hasHand (by decide) rfl rfl rfl (Nat.le_of_ble_eq_true rfl) (Nat.le_of_ble_eq_true rfl) ((k_X1_hasHand h hI a0).mono (fun r4 h5 p6 => ?_))
  obtain ⟨rfl, x7, rfl, q8 | q8 | q8⟩ := p6
  · show RUN d_X8_hand 8 [(0, .inr (.inr (.inl 0))), (1, .inl a0), (2, .inl a1)] [.inl x7] h _
    refine N_if_eq (a := x7.toInt) 18 rfl rfl rfl (fun c9 => ?_) (fun c9 => ?_)
    · refine R_bipush (-2) rfl rfl ?_
      exact R_iret rfl rfl rfl ⟨rfl, _, rfl, trivial⟩
    · exfalso; omega
  · show RUN d_X8_hand 8 [(0, .inr (.inr (.inl 0))), (1, .inl a0), (2, .inl a1)] [.inl x7] h _
    refine N_if_eq (a := x7.toInt) 18 rfl rfl rfl (fun c10 => ?_) (fun c10 => ?_)
    · refine R_bipush (-2) rfl rfl ?_
      exact R_iret rfl rfl rfl ⟨rfl, _, rfl, trivial⟩
    · exfalso; omega
  · show RUN d_X8_hand 8 [(0, .inr (.inr (.inl 0))), (1, .inl a0), (2, .inl a1)] [.inl x7] h _
    refine N_if_eq (a := x7.toInt) 18 rfl rfl rfl (fun c11 => ?_) (fun c11 => ?_)
    · exfalso; omega
    · refine R_iload_n (k := 2) rfl rfl rfl ?_
      refine R_callS (As := [.inl a1]) (rest := []) rfl mt_8_i122 (by decide) pp_X8_isEither (by decide) rfl rfl (Nat.le_of_ble_eq_true rfl) (Nat.le_of_ble_eq_true rfl) ((k_X8_isEither h hI a1).mono (fun r12 h13 p14 => ?_))
      obtain ⟨rfl, x15, rfl, q16 | q16 | q16⟩ := p14
      · show RUN d_X8_hand 15 [(0, .inr (.inr (.inl 0))), (1, .inl a0), (2, .inl a1)] [.inl x15] h _
        refine N_if_ne (a := x15.toInt) 21 rfl rfl rfl (fun c17 => ?_) (fun c17 => ?_)
        · refine R_iload_n (k := 2) rfl rfl rfl ?_
          refine N_if_ne (a := a1.toInt) 37 rfl rfl rfl (fun c18 => ?_) (fun c18 => ?_)
          · exfalso; omega
          · refine R_aload_n (k := 0) rfl rfl rfl ?_
            refine R_getf_r (j := 3) rfl ft_8_28 sh_0 rfl ?_
            refine R_getf_r (j := 2) rfl ft_8_125 sh_16 rfl ?_
            refine R_iload_n (k := 1) rfl rfl rfl ?_
            refine R_iald rfl sh_19 ⟨by omega, by omega⟩ ?_
            refine N_any (fun x19 => ?_)
            refine R_goto 46 rfl rfl ?_
            exact R_iret rfl rfl rfl ⟨rfl, _, rfl, trivial⟩
        · exfalso; omega
      · show RUN d_X8_hand 15 [(0, .inr (.inr (.inl 0))), (1, .inl a0), (2, .inl a1)] [.inl x15] h _
        refine N_if_ne (a := x15.toInt) 21 rfl rfl rfl (fun c20 => ?_) (fun c20 => ?_)
        · exfalso; omega
        · refine R_bipush (-2) rfl rfl ?_
          exact R_iret rfl rfl rfl ⟨rfl, _, rfl, trivial⟩
      · show RUN d_X8_hand 15 [(0, .inr (.inr (.inl 0))), (1, .inl a0), (2, .inl a1)] [.inl x15] h _
        refine N_if_ne (a := x15.toInt) 21 rfl rfl rfl (fun c21 => ?_) (fun c21 => ?_)
        · refine R_iload_n (k := 2) rfl rfl rfl ?_
          refine N_if_ne (a := a1.toInt) 37 rfl rfl rfl (fun c22 => ?_) (fun c22 => ?_)
          · refine R_aload_n (k := 0) rfl rfl rfl ?_
            refine R_getf_r (j := 3) rfl ft_8_28 sh_0 rfl ?_
            refine R_getf_r (j := 3) rfl ft_8_128 sh_16 rfl ?_
            refine R_iload_n (k := 1) rfl rfl rfl ?_
            refine R_iald rfl sh_20 ⟨by omega, by omega⟩ ?_
            refine N_any (fun x23 => ?_)
            exact R_iret rfl rfl rfl ⟨rfl, _, rfl, trivial⟩
          · exfalso; omega
        · exfalso; omega
abbrev q_X9_hands (h : PH)  : Option PV → PH → Prop := fun r h' => h = h' ∧ ∃ z : Int32, r = some (.inl z) ∧ ((0 ≤ z.toInt ∧ z.toInt ≤ 6 ∧ z.toInt = (h.1 97 5).toInt + 0))
set_option maxHeartbeats 4000000 in
set_option maxRecDepth 100000 in
theorem k_X9_hands (h : PH) (hI : INV h)  : CALL d_X9_hands [.inr (.inr (.inl 96))] h (q_X9_hands h) := by
  show RUN d_X9_hands 0 [(0, .inr (.inr (.inl 96)))] [] h _
  refine R_aload_n (k := 0) rfl rfl rfl ?_
  refine R_getf_r (j := 1) rfl ft_9_9 sh_96 rfl ?_
  refine R_iconst 5 rfl rfl ?_
  refine R_iald rfl sh_97 (by decide) ?_
  have b1 : (0 : Int) ≤ (h.1 97 5).toInt ∧ (h.1 97 5).toInt ≤ 6 := hI.1 97 5
  have b2 : (0 : Int) ≤ (h.1 97 0).toInt ∧ (h.1 97 0).toInt ≤ 60 := hI.1 97 0
  have e3 : 0 < (h.1 97 5).toInt → 1 ≤ (h.1 97 0).toInt := hI.2.2.2.2.2.1.2.2
  show RUN d_X9_hands 6 [(0, .inr (.inr (.inl 96)))] [.inl (h.1 97 5)] h _
  exact R_iret rfl rfl rfl ⟨rfl, _, rfl, by omega⟩
abbrev q_X9_asItIs (h : PH)  : Option PV → PH → Prop := fun r h' => INV h' ∧ FR [96, 103, 104, 105, 106] h h' ∧ (True) ∧ r = none
set_option maxHeartbeats 4000000 in
set_option maxRecDepth 100000 in
theorem k_X9_asItIs (h : PH) (hI : INV h)  : CALL d_X9_asItIs [.inr (.inr (.inl 96))] h (q_X9_asItIs h) := by
  show RUN d_X9_asItIs 0 [(0, .inr (.inr (.inl 96)))] [] h _
  have fr : FR [96, 103, 104, 105, 106] h h := FR.rf _ _
  refine R_iconst 0 rfl rfl ?_
  refine R_istore_n (k := 1) rfl [(1, .inl 0), (0, .inr (.inr (.inl 96)))] rfl rfl (by decide) ?_
  have lp2 : ∀ (n1 : Nat) (h3 : PH) (x5 : Int32), INV h3 → FR [96, 103, 104, 105, 106] h h3 → FR [96, 103, 104, 105, 106] h h3 → 0 ≤ x5.toInt ∧ x5.toInt ≤ 6 → (6 - x5.toInt).toNat < n1 → RUN d_X9_asItIs 2 [(1, .inl x5), (0, .inr (.inr (.inl 96)))] [] h3 (q_X9_asItIs h) := by
    intro n1
    induction n1 with
    | zero => intro h3 x5 m7 m8 m9 m10 hz; exact absurd hz (Nat.not_lt_zero _)
    | succ n1 ih6 =>
      intro h3 x5 hI fr fl4 m10 hz
      refine R_iload_n (k := 1) rfl rfl rfl ?_
      refine R_bipush 6 rfl rfl ?_
      refine N_icmp_ge (a := x5.toInt) (b := 6) 38 rfl rfl rfl (by decide) (fun c11 => ?_) (fun c11 => ?_)
      · refine R_iconst 0 rfl rfl ?_
        refine R_istore_n (k := 1) rfl [(1, .inl 0), (0, .inr (.inr (.inl 96)))] rfl rfl (by decide) ?_
        have lp13 : ∀ (n12 : Nat) (h14 : PH) (x16 : Int32), INV h14 → FR [96, 103, 104, 105, 106] h h14 → FR [96, 103, 104, 106] h3 h14 → 0 ≤ x16.toInt ∧ x16.toInt ≤ 360 → (360 - x16.toInt).toNat < n12 → RUN d_X9_asItIs 40 [(1, .inl x16), (0, .inr (.inr (.inl 96)))] [] h14 (q_X9_asItIs h) := by
          intro n12
          induction n12 with
          | zero => intro h14 x16 m18 m19 m20 m21 hz; exact absurd hz (Nat.not_lt_zero _)
          | succ n12 ih17 =>
            intro h14 x16 hI fr fl15 m21 hz
            have fl4 : FR [96, 103, 104, 105, 106] h h14 := fl4.trans fl15 (by decide)
            refine R_iload_n (k := 1) rfl rfl rfl ?_
            refine R_sipush 360 rfl rfl ?_
            refine N_icmp_ge (a := x16.toInt) (b := 360) 60 rfl rfl rfl (by decide) (fun c22 => ?_) (fun c22 => ?_)
            · refine R_iconst 0 rfl rfl ?_
              refine R_istore_n (k := 1) rfl [(1, .inl 0), (0, .inr (.inr (.inl 96)))] rfl rfl (by decide) ?_
              have lp24 : ∀ (n23 : Nat) (h25 : PH) (x27 : Int32), INV h25 → FR [96, 103, 104, 105, 106] h h25 → FR [96, 103, 104, 106] h14 h25 → 0 ≤ x27.toInt ∧ x27.toInt ≤ 60 → (60 - x27.toInt).toNat < n23 → RUN d_X9_asItIs 62 [(1, .inl x27), (0, .inr (.inr (.inl 96)))] [] h25 (q_X9_asItIs h) := by
                intro n23
                induction n23 with
                | zero => intro h25 x27 m29 m30 m31 m32 hz; exact absurd hz (Nat.not_lt_zero _)
                | succ n23 ih28 =>
                  intro h25 x27 hI fr fl26 m32 hz
                  have fl15 : FR [96, 103, 104, 106] h3 h25 := fl15.trans fl26 (by decide)
                  have fl4 : FR [96, 103, 104, 105, 106] h h25 := fl4.trans fl26 (by decide)
                  refine R_iload_n (k := 1) rfl rfl rfl ?_
                  refine R_bipush 60 rfl rfl ?_
                  refine N_icmp_ge (a := x27.toInt) (b := 60) 81 rfl rfl rfl (by decide) (fun c33 => ?_) (fun c33 => ?_)
                  · refine R_aload_n (k := 0) rfl rfl rfl ?_
                    refine R_aload_n (k := 0) rfl rfl rfl ?_
                    have b34 : (0 : Int) ≤ (h25.1 97 5).toInt ∧ (h25.1 97 5).toInt ≤ 6 := hI.1 97 5
                    have b35 : (0 : Int) ≤ (h25.1 97 0).toInt ∧ (h25.1 97 0).toInt ≤ 60 := hI.1 97 0
                    have e36 : 0 < (h25.1 97 5).toInt → 1 ≤ (h25.1 97 0).toInt := hI.2.2.2.2.2.1.2.2
                    refine R_callV (v := .inr (.inr (.inl 96))) (As := []) (rest := [.inr (.inr (.inl 96))]) rfl mt_9_i133 pp_X9_hands (by decide) rfl rfl rfl (Nat.le_of_ble_eq_true rfl) (Nat.le_of_ble_eq_true rfl) ((k_X9_hands h25 hI).mono (fun r37 h38 p39 => ?_))
                    obtain ⟨rfl, x40, rfl, q41⟩ := p39
                    show RUN d_X9_asItIs 86 [(1, .inl x27), (0, .inr (.inr (.inl 96)))] [.inl x40, .inr (.inr (.inl 96))] h25 _
                    refine K_putf (j := 18) (lo := 0) (hi' := 6) rfl ft_9_253 sh_96 rfl hI (by decide) rfl (by omega) fr (by decide) (fun h42 g43 hI fr => ?_)
                    have fl26 : FR [96, 103, 104, 106] h14 h42 := by rw [g43]; exact FR_wI _ _ fl26 (by decide)
                    have fl15 : FR [96, 103, 104, 106] h3 h42 := by rw [g43]; exact FR_wI _ _ fl15 (by decide)
                    have fl4 : FR [96, 103, 104, 105, 106] h h42 := by rw [g43]; exact FR_wI _ _ fl4 (by decide)
                    have s44 : (h42.1 97 5).toInt = (h25.1 97 5).toInt := by rw [g43, wI_ne _ _ _ (by decide)]
                    have s45 : (h42.1 97 0).toInt = (h25.1 97 0).toInt := by rw [g43, wI_ne _ _ _ (by decide)]
                    have s46 : (h42.1 96 18).toInt = x40.toInt := by rw [g43, wI_is]
                    refine R_aload_n (k := 0) rfl rfl rfl ?_
                    refine R_aload_n (k := 0) rfl rfl rfl ?_
                    refine R_getf_r (j := 1) rfl ft_9_9 sh_96 rfl ?_
                    refine R_iconst 1 rfl rfl ?_
                    refine R_iald rfl sh_97 (by decide) ?_
                    have b47 : (0 : Int) ≤ (h42.1 97 1).toInt ∧ (h42.1 97 1).toInt ≤ 8 := hI.1 97 1
                    show RUN d_X9_asItIs 96 [(1, .inl x27), (0, .inr (.inr (.inl 96)))] [.inl (h42.1 97 1), .inr (.inr (.inl 96))] h42 _
                    refine K_putf (j := 19) (lo := (-2147483648)) (hi' := 2147483647) rfl ft_9_256 sh_96 rfl hI (by decide) rfl (i_rng _) fr (by decide) (fun h48 g49 hI fr => ?_)
                    have fl26 : FR [96, 103, 104, 106] h14 h48 := by rw [g49]; exact FR_wI _ _ fl26 (by decide)
                    have fl15 : FR [96, 103, 104, 106] h3 h48 := by rw [g49]; exact FR_wI _ _ fl15 (by decide)
                    have fl4 : FR [96, 103, 104, 105, 106] h h48 := by rw [g49]; exact FR_wI _ _ fl4 (by decide)
                    have s50 : (h48.1 97 5).toInt = (h42.1 97 5).toInt := by rw [g49, wI_ne _ _ _ (by decide)]
                    have s51 : (h48.1 97 0).toInt = (h42.1 97 0).toInt := by rw [g49, wI_ne _ _ _ (by decide)]
                    have s52 : (h48.1 96 18).toInt = (h42.1 96 18).toInt := by rw [g49, wI_at (by decide)]
                    have s53 : (h48.1 97 1).toInt = (h42.1 97 1).toInt := by rw [g49, wI_ne _ _ _ (by decide)]
                    have s54 : (h48.1 96 19).toInt = (h42.1 97 1).toInt := by rw [g49, wI_is]
                    refine R_aload_n (k := 0) rfl rfl rfl ?_
                    refine R_aload_n (k := 0) rfl rfl rfl ?_
                    refine R_getf_r (j := 1) rfl ft_9_9 sh_96 rfl ?_
                    refine R_iconst 2 rfl rfl ?_
                    refine R_iald rfl sh_97 (by decide) ?_
                    show RUN d_X9_asItIs 106 [(1, .inl x27), (0, .inr (.inr (.inl 96)))] [.inl (h48.1 97 2), .inr (.inr (.inl 96))] h48 _
                    refine K_putf (j := 20) (lo := (-2147483648)) (hi' := 2147483647) rfl ft_9_259 sh_96 rfl hI (by decide) rfl (i_rng _) fr (by decide) (fun h55 g56 hI fr => ?_)
                    have fl26 : FR [96, 103, 104, 106] h14 h55 := by rw [g56]; exact FR_wI _ _ fl26 (by decide)
                    have fl15 : FR [96, 103, 104, 106] h3 h55 := by rw [g56]; exact FR_wI _ _ fl15 (by decide)
                    have fl4 : FR [96, 103, 104, 105, 106] h h55 := by rw [g56]; exact FR_wI _ _ fl4 (by decide)
                    have s57 : (h55.1 97 5).toInt = (h48.1 97 5).toInt := by rw [g56, wI_ne _ _ _ (by decide)]
                    have s58 : (h55.1 97 0).toInt = (h48.1 97 0).toInt := by rw [g56, wI_ne _ _ _ (by decide)]
                    have s59 : (h55.1 96 18).toInt = (h48.1 96 18).toInt := by rw [g56, wI_at (by decide)]
                    have s60 : (h55.1 97 1).toInt = (h48.1 97 1).toInt := by rw [g56, wI_ne _ _ _ (by decide)]
                    have s61 : (h55.1 96 19).toInt = (h48.1 96 19).toInt := by rw [g56, wI_at (by decide)]
                    have s62 : (h55.1 97 2).toInt = (h48.1 97 2).toInt := by rw [g56, wI_ne _ _ _ (by decide)]
                    have s63 : (h55.1 96 20).toInt = (h48.1 97 2).toInt := by rw [g56, wI_is]
                    refine R_iconst 0 rfl rfl ?_
                    refine R_istore_n (k := 1) rfl [(1, .inl 0), (0, .inr (.inr (.inl 96)))] rfl rfl (by decide) ?_
                    have lp65 : ∀ (n64 : Nat) (h66 : PH) (x68 : Int32), INV h66 → FR [96, 103, 104, 105, 106] h h66 → FR [103, 104] h55 h66 → 0 ≤ x68.toInt ∧ x68.toInt ≤ 30 → (30 - x68.toInt).toNat < n64 → RUN d_X9_asItIs 111 [(1, .inl x68), (0, .inr (.inr (.inl 96)))] [] h66 (q_X9_asItIs h) := by
                      intro n64
                      induction n64 with
                      | zero => intro h66 x68 m70 m71 m72 m73 hz; exact absurd hz (Nat.not_lt_zero _)
                      | succ n64 ih69 =>
                        intro h66 x68 hI fr fl67 m73 hz
                        have s74 : (h66.1 97 5).toInt = (h55.1 97 5).toInt := by rw [(fl67 97 (by decide)).1]
                        have s75 : (h66.1 97 0).toInt = (h55.1 97 0).toInt := by rw [(fl67 97 (by decide)).1]
                        have s76 : (h66.1 96 18).toInt = (h55.1 96 18).toInt := by rw [(fl67 96 (by decide)).1]
                        have s77 : (h66.1 97 1).toInt = (h55.1 97 1).toInt := by rw [(fl67 97 (by decide)).1]
                        have s78 : (h66.1 96 19).toInt = (h55.1 96 19).toInt := by rw [(fl67 96 (by decide)).1]
                        have s79 : (h66.1 97 2).toInt = (h55.1 97 2).toInt := by rw [(fl67 97 (by decide)).1]
                        have s80 : (h66.1 96 20).toInt = (h55.1 96 20).toInt := by rw [(fl67 96 (by decide)).1]
                        have fl26 : FR [96, 103, 104, 106] h14 h66 := fl26.trans fl67 (by decide)
                        have fl15 : FR [96, 103, 104, 106] h3 h66 := fl15.trans fl67 (by decide)
                        have fl4 : FR [96, 103, 104, 105, 106] h h66 := fl4.trans fl67 (by decide)
                        refine R_iload_n (k := 1) rfl rfl rfl ?_
                        refine R_aload_n (k := 0) rfl rfl rfl ?_
                        refine R_getf_r (j := 1) rfl ft_9_9 sh_96 rfl ?_
                        refine R_bipush 9 rfl rfl ?_
                        refine R_iald rfl sh_97 (by decide) ?_
                        have b81 : (0 : Int) ≤ (h66.1 97 9).toInt ∧ (h66.1 97 9).toInt ≤ 30 := hI.1 97 9
                        show RUN d_X9_asItIs 119 [(1, .inl x68), (0, .inr (.inr (.inl 96)))] [.inl (h66.1 97 9), .inl x68] h66 _
                        refine N_icmp_ge (a := x68.toInt) (b := (h66.1 97 9).toInt) 222 rfl rfl rfl rfl (fun c82 => ?_) (fun c82 => ?_)
                        · exact R_vret rfl rfl ⟨hI, fr, trivial, rfl⟩
                        · refine R_aload_n (k := 0) rfl rfl rfl ?_
                          refine R_getf_r (j := 1) rfl ft_9_9 sh_96 rfl ?_
                          refine R_bipush 38 rfl rfl ?_
                          refine R_iload_n (k := 1) rfl rfl rfl ?_
                          refine N_iadd (a := 38) (b := x68.toInt) rfl (by decide) rfl (by omega) (fun x83 q84 => ?_)
                          refine R_iald rfl sh_97 ⟨by omega, by omega⟩ ?_
                          refine N_bd2 (act_at hI (i := x83) (b := x68.toInt) (by omega) (by omega)) (fun x85 q86 => ?_)
                          refine R_istore_n (k := 2) rfl [(2, .inl x85), (1, .inl x68), (0, .inr (.inr (.inl 96)))] rfl rfl (by decide) ?_
                          refine R_iload_n (k := 2) rfl rfl rfl ?_
                          refine R_sipush 10000 rfl rfl ?_
                          refine N_icmp_ge (a := x85.toInt) (b := 10000) 157 rfl rfl rfl (by decide) (fun c87 => ?_) (fun c87 => ?_)
                          · refine R_iload_n (k := 2) rfl rfl rfl ?_
                            refine R_sipush 10000 rfl rfl ?_
                            refine N_idiv (a := x85.toInt) (b := 10000) rfl rfl (by decide) (by omega) (by omega) (fun x88 q89 => ?_)
                            refine R_iconst 1 rfl rfl ?_
                            refine N_isub (a := x88.toInt) (b := 1) rfl rfl (by decide) (by omega) (fun x90 q91 => ?_)
                            refine R_istore_n (k := 3) rfl [(3, .inl x90), (2, .inl x85), (1, .inl x68), (0, .inr (.inr (.inl 96)))] rfl rfl (by decide) ?_
                            refine R_iload_n (k := 2) rfl rfl rfl ?_
                            refine R_bipush 100 rfl rfl ?_
                            refine N_idiv (a := x85.toInt) (b := 100) rfl rfl (by decide) (by omega) (by omega) (fun x92 q93 => ?_)
                            refine R_bipush 100 rfl rfl ?_
                            refine N_irem (a := x92.toInt) (b := 100) rfl rfl (by decide) (by omega) (by omega) (fun x94 q95 => ?_)
                            refine R_istore (k := 4) [(4, .inl x94), (3, .inl x90), (2, .inl x85), (1, .inl x68), (0, .inr (.inr (.inl 96)))] rfl rfl (by decide) ?_
                            refine R_iload (k := 4) rfl rfl ?_
                            refine R_istore (k := 5) [(5, .inl x94), (4, .inl x94), (3, .inl x90), (2, .inl x85), (1, .inl x68), (0, .inr (.inr (.inl 96)))] rfl rfl (by decide) ?_
                            have lp97 : ∀ (n96 : Nat) (h98 : PH) (x100 : Int32), INV h98 → FR [96, 103, 104, 105, 106] h h98 → FR [104] h66 h98 → 0 ≤ x100.toInt ∧ x100.toInt ≤ 99 → x94.toInt ≤ x100.toInt + 0 → (99 - x100.toInt).toNat < n96 → RUN d_X9_asItIs 178 [(5, .inl x100), (4, .inl x94), (3, .inl x90), (2, .inl x85), (1, .inl x68), (0, .inr (.inr (.inl 96)))] [] h98 (q_X9_asItIs h) := by
                              intro n96
                              induction n96 with
                              | zero => intro h98 x100 m102 m103 m104 m105 m106 hz; exact absurd hz (Nat.not_lt_zero _)
                              | succ n96 ih101 =>
                                intro h98 x100 hI fr fl99 m105 m106 hz
                                have s107 : (h98.1 97 5).toInt = (h66.1 97 5).toInt := by rw [(fl99 97 (by decide)).1]
                                have s108 : (h98.1 97 0).toInt = (h66.1 97 0).toInt := by rw [(fl99 97 (by decide)).1]
                                have s109 : (h98.1 96 18).toInt = (h66.1 96 18).toInt := by rw [(fl99 96 (by decide)).1]
                                have s110 : (h98.1 97 1).toInt = (h66.1 97 1).toInt := by rw [(fl99 97 (by decide)).1]
                                have s111 : (h98.1 96 19).toInt = (h66.1 96 19).toInt := by rw [(fl99 96 (by decide)).1]
                                have s112 : (h98.1 97 2).toInt = (h66.1 97 2).toInt := by rw [(fl99 97 (by decide)).1]
                                have s113 : (h98.1 96 20).toInt = (h66.1 96 20).toInt := by rw [(fl99 96 (by decide)).1]
                                have s114 : (h98.1 97 9).toInt = (h66.1 97 9).toInt := by rw [(fl99 97 (by decide)).1]
                                have fl67 : FR [103, 104] h55 h98 := fl67.trans fl99 (by decide)
                                have fl26 : FR [96, 103, 104, 106] h14 h98 := fl26.trans fl99 (by decide)
                                have fl15 : FR [96, 103, 104, 106] h3 h98 := fl15.trans fl99 (by decide)
                                have fl4 : FR [96, 103, 104, 105, 106] h h98 := fl4.trans fl99 (by decide)
                                refine R_iload (k := 5) rfl rfl ?_
                                refine R_iload (k := 4) rfl rfl ?_
                                refine R_iload_n (k := 2) rfl rfl rfl ?_
                                refine R_bipush 100 rfl rfl ?_
                                refine N_irem (a := x85.toInt) (b := 100) rfl rfl (by decide) (by omega) (by omega) (fun x115 q116 => ?_)
                                refine N_iadd (a := x94.toInt) (b := x115.toInt) rfl rfl rfl (by omega) (fun x117 q118 => ?_)
                                refine N_icmp_ge (a := x100.toInt) (b := x117.toInt) 216 rfl rfl rfl rfl (fun c119 => ?_) (fun c119 => ?_)
                                · refine N_iinc (a := x68.toInt) (c := 1) (fun w => [(1, .inl w), (5, .inl x100), (4, .inl x94), (3, .inl x90), (2, .inl x85), (0, .inr (.inr (.inl 96)))]) rfl rfl (fun _ => rfl) (by decide) rfl (by decide) (by omega) (fun x120 q121 => ?_)
                                  refine R_goto 111 rfl rfl ?_
                                  exact RUN_weak (psub_cons rfl (psub_cons rfl (psub_nil _))) (ih69 h98 x120 hI fr fl67 (by omega) (by omega))
                                · refine R_iload (k := 5) rfl rfl ?_
                                  refine R_bipush 60 rfl rfl ?_
                                  refine N_icmp_ge (a := x100.toInt) (b := 60) 216 rfl rfl rfl (by decide) (fun c122 => ?_) (fun c122 => ?_)
                                  · refine N_iinc (a := x68.toInt) (c := 1) (fun w => [(1, .inl w), (5, .inl x100), (4, .inl x94), (3, .inl x90), (2, .inl x85), (0, .inr (.inr (.inl 96)))]) rfl rfl (fun _ => rfl) (by decide) rfl (by decide) (by omega) (fun x123 q124 => ?_)
                                    refine R_goto 111 rfl rfl ?_
                                    exact RUN_weak (psub_cons rfl (psub_cons rfl (psub_nil _))) (ih69 h98 x123 hI fr fl67 (by omega) (by omega))
                                  · refine R_aload_n (k := 0) rfl rfl rfl ?_
                                    refine R_getf_r (j := 16) rfl ft_9_37 sh_96 rfl ?_
                                    refine R_bipush 6 rfl rfl ?_
                                    refine R_iload (k := 5) rfl rfl ?_
                                    refine N_imul (a := 6) (b := x100.toInt) rfl (by decide) rfl (by omega) (fun x125 q126 => ?_)
                                    refine R_iload_n (k := 3) rfl rfl rfl ?_
                                    refine N_iadd (a := x125.toInt) (b := x90.toInt) rfl rfl rfl (by omega) (fun x127 q128 => ?_)
                                    refine R_iconst 1 rfl rfl ?_
                                    refine K_zast (a := x127.toInt) rfl sh_104 rfl ⟨by omega, by omega⟩ hI (by decide) rfl fr (by decide) (fun h129 g130 hI fr => ?_)
                                    have fl99 : FR [104] h66 h129 := by rw [g130]; exact FR_wI _ _ fl99 (by decide)
                                    have fl67 : FR [103, 104] h55 h129 := by rw [g130]; exact FR_wI _ _ fl67 (by decide)
                                    have fl26 : FR [96, 103, 104, 106] h14 h129 := by rw [g130]; exact FR_wI _ _ fl26 (by decide)
                                    have fl15 : FR [96, 103, 104, 106] h3 h129 := by rw [g130]; exact FR_wI _ _ fl15 (by decide)
                                    have fl4 : FR [96, 103, 104, 105, 106] h h129 := by rw [g130]; exact FR_wI _ _ fl4 (by decide)
                                    have s131 : (h129.1 97 5).toInt = (h98.1 97 5).toInt := by rw [g130, wI_ne _ _ _ (by decide)]
                                    have s132 : (h129.1 97 0).toInt = (h98.1 97 0).toInt := by rw [g130, wI_ne _ _ _ (by decide)]
                                    have s133 : (h129.1 96 18).toInt = (h98.1 96 18).toInt := by rw [g130, wI_ne _ _ _ (by decide)]
                                    have s134 : (h129.1 97 1).toInt = (h98.1 97 1).toInt := by rw [g130, wI_ne _ _ _ (by decide)]
                                    have s135 : (h129.1 96 19).toInt = (h98.1 96 19).toInt := by rw [g130, wI_ne _ _ _ (by decide)]
                                    have s136 : (h129.1 97 2).toInt = (h98.1 97 2).toInt := by rw [g130, wI_ne _ _ _ (by decide)]
                                    have s137 : (h129.1 96 20).toInt = (h98.1 96 20).toInt := by rw [g130, wI_ne _ _ _ (by decide)]
                                    have s138 : (h129.1 97 9).toInt = (h98.1 97 9).toInt := by rw [g130, wI_ne _ _ _ (by decide)]
                                    refine N_iinc (a := x100.toInt) (c := 1) (fun w => [(5, .inl w), (4, .inl x94), (3, .inl x90), (2, .inl x85), (1, .inl x68), (0, .inr (.inr (.inl 96)))]) rfl rfl (fun _ => rfl) (by decide) rfl (by decide) (by omega) (fun x139 q140 => ?_)
                                    refine R_goto 178 rfl rfl ?_
                                    exact RUN_weak (psub_cons rfl (psub_cons rfl (psub_cons rfl (psub_cons rfl (psub_cons rfl (psub_cons rfl (psub_nil _))))))) (ih101 h129 x139 hI fr fl99 (by omega) (by omega) (by omega))
                            exact lp97 _ h66 x94 hI fr (FR.rf _ _) (by omega) (by omega) (Nat.lt_succ_self _)
                          · refine R_aload_n (k := 0) rfl rfl rfl ?_
                            refine R_getf_r (j := 15) rfl ft_9_34 sh_96 rfl ?_
                            refine R_iload_n (k := 2) rfl rfl rfl ?_
                            refine R_bipush 100 rfl rfl ?_
                            refine N_idiv (a := x85.toInt) (b := 100) rfl rfl (by decide) (by omega) (by omega) (fun x141 q142 => ?_)
                            refine R_iconst 1 rfl rfl ?_
                            refine N_isub (a := x141.toInt) (b := 1) rfl rfl (by decide) (by omega) (fun x143 q144 => ?_)
                            refine R_iload_n (k := 2) rfl rfl rfl ?_
                            refine R_bipush 100 rfl rfl ?_
                            refine N_irem (a := x85.toInt) (b := 100) rfl rfl (by decide) (by omega) (by omega) (fun x145 q146 => ?_)
                            refine K_iast (a := x143.toInt) (lo := (-2147483648)) (hi' := 2147483647) rfl sh_103 rfl ⟨by omega, by omega⟩ hI (by decide) rfl (i_rng _) fr (by decide) (fun h147 g148 hI fr => ?_)
                            have fl67 : FR [103, 104] h55 h147 := by rw [g148]; exact FR_wI _ _ fl67 (by decide)
                            have fl26 : FR [96, 103, 104, 106] h14 h147 := by rw [g148]; exact FR_wI _ _ fl26 (by decide)
                            have fl15 : FR [96, 103, 104, 106] h3 h147 := by rw [g148]; exact FR_wI _ _ fl15 (by decide)
                            have fl4 : FR [96, 103, 104, 105, 106] h h147 := by rw [g148]; exact FR_wI _ _ fl4 (by decide)
                            have s149 : (h147.1 97 5).toInt = (h66.1 97 5).toInt := by rw [g148, wI_ne _ _ _ (by decide)]
                            have s150 : (h147.1 97 0).toInt = (h66.1 97 0).toInt := by rw [g148, wI_ne _ _ _ (by decide)]
                            have s151 : (h147.1 96 18).toInt = (h66.1 96 18).toInt := by rw [g148, wI_ne _ _ _ (by decide)]
                            have s152 : (h147.1 97 1).toInt = (h66.1 97 1).toInt := by rw [g148, wI_ne _ _ _ (by decide)]
                            have s153 : (h147.1 96 19).toInt = (h66.1 96 19).toInt := by rw [g148, wI_ne _ _ _ (by decide)]
                            have s154 : (h147.1 97 2).toInt = (h66.1 97 2).toInt := by rw [g148, wI_ne _ _ _ (by decide)]
                            have s155 : (h147.1 96 20).toInt = (h66.1 96 20).toInt := by rw [g148, wI_ne _ _ _ (by decide)]
                            have s156 : (h147.1 97 9).toInt = (h66.1 97 9).toInt := by rw [g148, wI_ne _ _ _ (by decide)]
                            refine R_goto 216 rfl rfl ?_
                            refine N_iinc (a := x68.toInt) (c := 1) (fun w => [(1, .inl w), (2, .inl x85), (0, .inr (.inr (.inl 96)))]) rfl rfl (fun _ => rfl) (by decide) rfl (by decide) (by omega) (fun x157 q158 => ?_)
                            refine R_goto 111 rfl rfl ?_
                            exact RUN_weak (psub_cons rfl (psub_cons rfl (psub_nil _))) (ih69 h147 x157 hI fr fl67 (by omega) (by omega))
                    exact lp65 _ h55 (0 : Int32) hI fr (FR.rf _ _) (by decide) (Nat.lt_succ_self _)
                  · refine R_aload_n (k := 0) rfl rfl rfl ?_
                    refine R_getf_r (j := 21) rfl ft_9_43 sh_96 rfl ?_
                    refine R_iload_n (k := 1) rfl rfl rfl ?_
                    refine R_iconst 0 rfl rfl ?_
                    refine K_zast (a := x27.toInt) rfl sh_106 rfl ⟨by omega, by omega⟩ hI (by decide) rfl fr (by decide) (fun h159 g160 hI fr => ?_)
                    have fl26 : FR [96, 103, 104, 106] h14 h159 := by rw [g160]; exact FR_wI _ _ fl26 (by decide)
                    have fl15 : FR [96, 103, 104, 106] h3 h159 := by rw [g160]; exact FR_wI _ _ fl15 (by decide)
                    have fl4 : FR [96, 103, 104, 105, 106] h h159 := by rw [g160]; exact FR_wI _ _ fl4 (by decide)
                    refine N_iinc (a := x27.toInt) (c := 1) (fun w => [(1, .inl w), (0, .inr (.inr (.inl 96)))]) rfl rfl (fun _ => rfl) (by decide) rfl (by decide) (by omega) (fun x161 q162 => ?_)
                    refine R_goto 62 rfl rfl ?_
                    exact RUN_weak (psub_cons rfl (psub_cons rfl (psub_nil _))) (ih28 h159 x161 hI fr fl26 (by omega) (by omega))
              exact lp24 _ h14 (0 : Int32) hI fr (FR.rf _ _) (by decide) (Nat.lt_succ_self _)
            · refine R_aload_n (k := 0) rfl rfl rfl ?_
              refine R_getf_r (j := 16) rfl ft_9_37 sh_96 rfl ?_
              refine R_iload_n (k := 1) rfl rfl rfl ?_
              refine R_iconst 0 rfl rfl ?_
              refine K_zast (a := x16.toInt) rfl sh_104 rfl ⟨by omega, by omega⟩ hI (by decide) rfl fr (by decide) (fun h163 g164 hI fr => ?_)
              have fl15 : FR [96, 103, 104, 106] h3 h163 := by rw [g164]; exact FR_wI _ _ fl15 (by decide)
              have fl4 : FR [96, 103, 104, 105, 106] h h163 := by rw [g164]; exact FR_wI _ _ fl4 (by decide)
              refine N_iinc (a := x16.toInt) (c := 1) (fun w => [(1, .inl w), (0, .inr (.inr (.inl 96)))]) rfl rfl (fun _ => rfl) (by decide) rfl (by decide) (by omega) (fun x165 q166 => ?_)
              refine R_goto 40 rfl rfl ?_
              exact RUN_weak (psub_cons rfl (psub_cons rfl (psub_nil _))) (ih17 h163 x165 hI fr fl15 (by omega) (by omega))
        exact lp13 _ h3 (0 : Int32) hI fr (FR.rf _ _) (by decide) (Nat.lt_succ_self _)
      · refine R_aload_n (k := 0) rfl rfl rfl ?_
        refine R_getf_r (j := 15) rfl ft_9_34 sh_96 rfl ?_
        refine R_iload_n (k := 1) rfl rfl rfl ?_
        refine R_aload_n (k := 0) rfl rfl rfl ?_
        refine R_getf_r (j := 1) rfl ft_9_9 sh_96 rfl ?_
        refine R_bipush 11 rfl rfl ?_
        refine R_iconst 2 rfl rfl ?_
        refine R_iload_n (k := 1) rfl rfl rfl ?_
        refine N_imul (a := 2) (b := x5.toInt) rfl (by decide) rfl (by omega) (fun x167 q168 => ?_)
        refine N_iadd (a := 11) (b := x167.toInt) rfl (by decide) rfl (by omega) (fun x169 q170 => ?_)
        refine R_iald rfl sh_97 ⟨by omega, by omega⟩ ?_
        refine N_any (fun x171 => ?_)
        refine K_iast (a := x5.toInt) (lo := (-2147483648)) (hi' := 2147483647) rfl sh_103 rfl ⟨by omega, by omega⟩ hI (by decide) rfl (i_rng _) fr (by decide) (fun h172 g173 hI fr => ?_)
        have fl4 : FR [96, 103, 104, 105, 106] h h172 := by rw [g173]; exact FR_wI _ _ fl4 (by decide)
        refine R_aload_n (k := 0) rfl rfl rfl ?_
        refine R_getf_r (j := 17) rfl ft_9_40 sh_96 rfl ?_
        refine R_iload_n (k := 1) rfl rfl rfl ?_
        refine R_iload_n (k := 1) rfl rfl rfl ?_
        refine K_iast (a := x5.toInt) (lo := 0) (hi' := 5) rfl sh_105 rfl ⟨by omega, by omega⟩ hI (by decide) rfl (by omega) fr (by decide) (fun h174 g175 hI fr => ?_)
        have fl4 : FR [96, 103, 104, 105, 106] h h174 := by rw [g175]; exact FR_wI _ _ fl4 (by decide)
        refine N_iinc (a := x5.toInt) (c := 1) (fun w => [(1, .inl w), (0, .inr (.inr (.inl 96)))]) rfl rfl (fun _ => rfl) (by decide) rfl (by decide) (by omega) (fun x176 q177 => ?_)
        refine R_goto 2 rfl rfl ?_
        exact RUN_weak (psub_cons rfl (psub_cons rfl (psub_nil _))) (ih6 h174 x176 hI fr fl4 (by omega) (by omega))
  exact lp2 _ h (0 : Int32) hI fr (FR.rf _ _) (by decide) (Nat.lt_succ_self _)
abbrev q_X9_isHand (h : PH) (a0 : Int32) : Option PV → PH → Prop := fun r h' => h = h' ∧ ∃ z : Int32, r = some (.inl z) ∧ ((z.toInt = 0 ∧ a0.toInt ≤ (-1)) ∨ (z.toInt = 0 ∧ 0 ≤ a0.toInt ∧ (h.1 97 5).toInt ≤ a0.toInt + 0) ∨ (z.toInt = 1 ∧ 0 ≤ a0.toInt ∧ a0.toInt ≤ 5 ∧ 1 ≤ (h.1 97 0).toInt ∧ (h.1 97 0).toInt ≤ 60 ∧ 1 ≤ (h.1 97 5).toInt ∧ (h.1 97 5).toInt ≤ 6 ∧ a0.toInt ≤ (h.1 97 5).toInt + (-1)))
set_option maxHeartbeats 4000000 in
set_option maxRecDepth 100000 in
theorem k_X9_isHand (h : PH) (hI : INV h) (a0 : Int32) : CALL d_X9_isHand [.inr (.inr (.inl 96)), .inl a0] h (q_X9_isHand h a0) := by
  show RUN d_X9_isHand 0 [(0, .inr (.inr (.inl 96))), (1, .inl a0)] [] h _
  have b1 := i_rng a0
  refine R_iload_n (k := 1) rfl rfl rfl ?_
  refine N_i2l rfl (fun w2 q3 => ?_)
  refine R_lconst 0 rfl rfl ?_
  refine R_aload_n (k := 0) rfl rfl rfl ?_
  refine R_getf_r (j := 1) rfl ft_9_9 sh_96 rfl ?_
  refine R_iconst 5 rfl rfl ?_
  refine R_iald rfl sh_97 (by decide) ?_
  have b4 : (0 : Int) ≤ (h.1 97 5).toInt ∧ (h.1 97 5).toInt ≤ 6 := hI.1 97 5
  have b5 : (0 : Int) ≤ (h.1 97 0).toInt ∧ (h.1 97 0).toInt ≤ 60 := hI.1 97 0
  have e6 : 0 < (h.1 97 5).toInt → 1 ≤ (h.1 97 0).toInt := hI.2.2.2.2.2.1.2.2
  show RUN d_X9_isHand 9 [(0, .inr (.inr (.inl 96))), (1, .inl a0)] [.inl (h.1 97 5), .inr (.inl 0), .inr (.inl w2)] h _
  refine R_iconst 1 rfl rfl ?_
  refine N_isub (a := (h.1 97 5).toInt) (b := 1) rfl rfl (by decide) (by omega) (fun x7 q8 => ?_)
  refine N_i2l rfl (fun w9 q10 => ?_)
  have k11 : (0 : Int64).toInt = 0 := by decide
  refine R_callS (As := [.inr (.inl w2), .inr (.inl 0), .inr (.inl w9)]) (rest := []) rfl mt_9_i125 (by decide) pp_X9_in (by decide) rfl rfl (Nat.le_of_ble_eq_true rfl) (Nat.le_of_ble_eq_true rfl) ((k_X9_in h hI w2 (0 : Int64) w9).mono (fun r12 h13 p14 => ?_))
  obtain ⟨rfl, x15, rfl, q16 | q16 | q16⟩ := p14
  · show RUN d_X9_isHand 15 [(0, .inr (.inr (.inl 96))), (1, .inl a0)] [.inl x15] h _
    exact R_iret rfl rfl (nar_z (by omega)) ⟨rfl, _, rfl, by omega⟩
  · show RUN d_X9_isHand 15 [(0, .inr (.inr (.inl 96))), (1, .inl a0)] [.inl x15] h _
    exact R_iret rfl rfl (nar_z (by omega)) ⟨rfl, _, rfl, by omega⟩
  · show RUN d_X9_isHand 15 [(0, .inr (.inr (.inl 96))), (1, .inl a0)] [.inl x15] h _
    exact R_iret rfl rfl (nar_z (by omega)) ⟨rfl, _, rfl, by omega⟩
abbrev q_X9_hand (h : PH) (a0 : Int32) (a1 : Int32) : Option PV → PH → Prop := fun r h' => INV h' ∧ FR [96, 103, 104, 105, 106] h h' ∧ (True) ∧ ∃ z : Int32, r = some (.inl z) ∧ ((True))
set_option maxHeartbeats 4000000 in
set_option maxRecDepth 100000 in
theorem k_X9_hand (h : PH) (hI : INV h) (a0 : Int32) (a1 : Int32) : CALL d_X9_hand [.inr (.inr (.inl 96)), .inl a0, .inl a1] h (q_X9_hand h a0 a1) := by
  show RUN d_X9_hand 0 [(0, .inr (.inr (.inl 96))), (1, .inl a0), (2, .inl a1)] [] h _
  have b1 := i_rng a0
  have b2 := i_rng a1
  have fr : FR [96, 103, 104, 105, 106] h h := FR.rf _ _
  refine R_aload_n (k := 0) rfl rfl rfl ?_
  refine R_callV (v := .inr (.inr (.inl 96))) (As := []) (rest := []) rfl mt_9_i298 pp_X9_asItIs (by decide) rfl rfl rfl (Nat.le_of_ble_eq_true rfl) (Nat.le_of_ble_eq_true rfl) ((k_X9_asItIs h hI).mono (fun r3 h4 p5 => ?_))
  obtain ⟨hJ, fj, -, rfl⟩ := p5
  have f6 := fj
  have fr := fr.trans fj (by decide)
  have hI := hJ
  show RUN d_X9_hand 4 [(0, .inr (.inr (.inl 96))), (1, .inl a0), (2, .inl a1)] [] h4 _
  refine R_aload_n (k := 0) rfl rfl rfl ?_
  refine R_iload_n (k := 1) rfl rfl rfl ?_
  have b7 : (0 : Int) ≤ (h4.1 97 5).toInt ∧ (h4.1 97 5).toInt ≤ 6 := hI.1 97 5
  have b8 : (0 : Int) ≤ (h4.1 97 0).toInt ∧ (h4.1 97 0).toInt ≤ 60 := hI.1 97 0
  have e9 : 0 < (h4.1 97 5).toInt → 1 ≤ (h4.1 97 0).toInt := hI.2.2.2.2.2.1.2.2
  refine R_callV (v := .inr (.inr (.inl 96))) (As := [.inl a0]) (rest := []) rfl mt_9_i314 pp_X9_isHand (by decide) rfl rfl rfl (Nat.le_of_ble_eq_true rfl) (Nat.le_of_ble_eq_true rfl) ((k_X9_isHand h4 hI a0).mono (fun r10 h11 p12 => ?_))
  obtain ⟨rfl, x13, rfl, q14 | q14 | q14⟩ := p12
  · show RUN d_X9_hand 9 [(0, .inr (.inr (.inl 96))), (1, .inl a0), (2, .inl a1)] [.inl x13] h4 _
    refine N_if_eq (a := x13.toInt) 22 rfl rfl rfl (fun c15 => ?_) (fun c15 => ?_)
    · refine R_bipush (-2) rfl rfl ?_
      exact R_iret rfl rfl rfl ⟨hI, fr, trivial, _, rfl, trivial⟩
    · exfalso; omega
  · show RUN d_X9_hand 9 [(0, .inr (.inr (.inl 96))), (1, .inl a0), (2, .inl a1)] [.inl x13] h4 _
    refine N_if_eq (a := x13.toInt) 22 rfl rfl rfl (fun c16 => ?_) (fun c16 => ?_)
    · refine R_bipush (-2) rfl rfl ?_
      exact R_iret rfl rfl rfl ⟨hI, fr, trivial, _, rfl, trivial⟩
    · exfalso; omega
  · show RUN d_X9_hand 9 [(0, .inr (.inr (.inl 96))), (1, .inl a0), (2, .inl a1)] [.inl x13] h4 _
    refine N_if_eq (a := x13.toInt) 22 rfl rfl rfl (fun c17 => ?_) (fun c17 => ?_)
    · exfalso; omega
    · refine R_iload_n (k := 2) rfl rfl rfl ?_
      refine N_i2l rfl (fun w18 q19 => ?_)
      refine R_lconst 0 rfl rfl ?_
      refine R_lconst 1 rfl rfl ?_
      have k20 : (0 : Int64).toInt = 0 := by decide
      have k21 : (1 : Int64).toInt = 1 := by decide
      refine R_callS (As := [.inr (.inl w18), .inr (.inl 0), .inr (.inl 1)]) (rest := []) rfl mt_9_i125 (by decide) pp_X9_in (by decide) rfl rfl (Nat.le_of_ble_eq_true rfl) (Nat.le_of_ble_eq_true rfl) ((k_X9_in h4 hI w18 (0 : Int64) (1 : Int64)).mono (fun r22 h23 p24 => ?_))
      obtain ⟨rfl, x25, rfl, q26 | q26 | q26⟩ := p24
      · show RUN d_X9_hand 19 [(0, .inr (.inr (.inl 96))), (1, .inl a0), (2, .inl a1)] [.inl x25] h4 _
        refine N_if_ne (a := x25.toInt) 25 rfl rfl rfl (fun c27 => ?_) (fun c27 => ?_)
        · exfalso; omega
        · refine R_bipush (-2) rfl rfl ?_
          exact R_iret rfl rfl rfl ⟨hI, fr, trivial, _, rfl, trivial⟩
      · show RUN d_X9_hand 19 [(0, .inr (.inr (.inl 96))), (1, .inl a0), (2, .inl a1)] [.inl x25] h4 _
        refine N_if_ne (a := x25.toInt) 25 rfl rfl rfl (fun c28 => ?_) (fun c28 => ?_)
        · exfalso; omega
        · refine R_bipush (-2) rfl rfl ?_
          exact R_iret rfl rfl rfl ⟨hI, fr, trivial, _, rfl, trivial⟩
      · show RUN d_X9_hand 19 [(0, .inr (.inr (.inl 96))), (1, .inl a0), (2, .inl a1)] [.inl x25] h4 _
        refine N_if_ne (a := x25.toInt) 25 rfl rfl rfl (fun c29 => ?_) (fun c29 => ?_)
        · refine R_iload_n (k := 2) rfl rfl rfl ?_
          refine N_if_ne (a := a1.toInt) 38 rfl rfl rfl (fun c30 => ?_) (fun c30 => ?_)
          · refine R_aload_n (k := 0) rfl rfl rfl ?_
            refine R_getf_r (j := 1) rfl ft_9_9 sh_96 rfl ?_
            refine R_bipush 11 rfl rfl ?_
            refine R_iconst 2 rfl rfl ?_
            refine R_iload_n (k := 1) rfl rfl rfl ?_
            refine N_imul (a := 2) (b := a0.toInt) rfl (by decide) rfl (by omega) (fun x31 q32 => ?_)
            refine N_iadd (a := 11) (b := x31.toInt) rfl (by decide) rfl (by omega) (fun x33 q34 => ?_)
            refine R_iconst 1 rfl rfl ?_
            refine N_iadd (a := x33.toInt) (b := 1) rfl rfl (by decide) (by omega) (fun x35 q36 => ?_)
            refine R_iald rfl sh_97 ⟨by omega, by omega⟩ ?_
            refine N_any (fun x37 => ?_)
            exact R_iret rfl rfl rfl ⟨hI, fr, trivial, _, rfl, trivial⟩
          · refine R_aload_n (k := 0) rfl rfl rfl ?_
            refine R_getf_r (j := 15) rfl ft_9_34 sh_96 rfl ?_
            refine R_iload_n (k := 1) rfl rfl rfl ?_
            refine R_iald rfl sh_103 ⟨by omega, by omega⟩ ?_
            refine N_any (fun x38 => ?_)
            refine R_goto 51 rfl rfl ?_
            exact R_iret rfl rfl rfl ⟨hI, fr, trivial, _, rfl, trivial⟩
        · exfalso; omega
