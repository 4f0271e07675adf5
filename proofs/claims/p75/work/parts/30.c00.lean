abbrev q_X7_hasRoom (h : PH) (a0 : Int32) : Option PV → PH → Prop := fun r h' => h = h' ∧ ∃ z : Int32, r = some (.inl z) ∧ ((z.toInt = 0) ∨ (z.toInt = 1 ∧ (h.1 2 1).toInt + a0.toInt ≤ 500))
set_option maxHeartbeats 4000000 in
set_option maxRecDepth 100000 in
theorem k_X7_hasRoom (h : PH) (hI : INV h) (a0 : Int32) (h0a : 4 ≤ a0.toInt ∧ a0.toInt ≤ 20) : CALL d_X7_hasRoom [.inr (.inr (.inl 2)), .inl a0] h (q_X7_hasRoom h a0) := by
  show RUN d_X7_hasRoom 0 [(0, .inr (.inr (.inl 2))), (1, .inl a0)] [] h _
  refine R_aload_n (k := 0) rfl rfl rfl ?_
  refine R_getf_i (j := 1) rfl ft_7_15 sh_2 rfl ?_
  have b1 : (0 : Int) ≤ (h.1 2 1).toInt ∧ (h.1 2 1).toInt ≤ 500 := hI.1 2 1
  refine R_iload_n (k := 1) rfl rfl rfl ?_
  refine N_iadd (a := (h.1 2 1).toInt) (b := a0.toInt) rfl rfl rfl (by omega) (fun x2 q3 => ?_)
  refine R_sipush 500 rfl rfl ?_
  refine N_icmp_gt (a := x2.toInt) (b := 500) 16 rfl rfl rfl (by decide) (fun c4 => ?_) (fun c4 => ?_)
  · refine R_iconst 0 rfl rfl ?_
    exact R_iret rfl rfl rfl ⟨rfl, _, rfl, by rw [show (0 : Int32).toInt = 0 from rfl] <;> omega⟩
  · refine R_iconst 1 rfl rfl ?_
    refine R_goto 17 rfl rfl ?_
    exact R_iret rfl rfl rfl ⟨rfl, _, rfl, by rw [show (1 : Int32).toInt = 1 from rfl] <;> omega⟩
abbrev q_X7_putNumber (h : PH) (a0 : Int32) : Option PV → PH → Prop := fun r h' => INV h' ∧ FR [2, 3] h h' ∧ (True) ∧ r = none
set_option maxHeartbeats 4000000 in
set_option maxRecDepth 100000 in
theorem k_X7_putNumber (h : PH) (hI : INV h) (a0 : Int32) : CALL d_X7_putNumber [.inr (.inr (.inl 2)), .inl a0] h (q_X7_putNumber h a0) := by
  show RUN d_X7_putNumber 0 [(0, .inr (.inr (.inl 2))), (1, .inl a0)] [] h _
  have b1 := i_rng a0
  have fr : FR [2, 3] h h := FR.rf _ _
  have b2 : (0 : Int) ≤ (h.1 2 1).toInt ∧ (h.1 2 1).toInt ≤ 500 := hI.1 2 1
  refine R_aload_n (k := 0) rfl rfl rfl ?_
  refine R_iconst 4 rfl rfl ?_
  have k3 : (4 : Int32).toInt = 4 := by decide
  refine R_callV (v := .inr (.inr (.inl 2))) (As := [.inl 4]) (rest := []) rfl mt_7_i19 pp_X7_hasRoom (by decide) rfl rfl rfl (Nat.le_of_ble_eq_true rfl) (Nat.le_of_ble_eq_true rfl) ((k_X7_hasRoom h hI (4 : Int32) (by decide)).mono (fun r4 h5 p6 => ?_))
  obtain ⟨rfl, x7, rfl, q8 | q8⟩ := p6
  · show RUN d_X7_putNumber 5 [(0, .inr (.inr (.inl 2))), (1, .inl a0)] [.inl x7] h _
    refine N_if_ne (a := x7.toInt) 9 rfl rfl rfl (fun c9 => ?_) (fun c9 => ?_)
    · exfalso; omega
    · exact R_vret rfl rfl ⟨hI, fr, trivial, rfl⟩
  · show RUN d_X7_putNumber 5 [(0, .inr (.inr (.inl 2))), (1, .inl a0)] [.inl x7] h _
    refine N_if_ne (a := x7.toInt) 9 rfl rfl rfl (fun c10 => ?_) (fun c10 => ?_)
    · refine R_bipush 24 rfl rfl ?_
      refine R_istore_n (k := 2) rfl [(2, .inl 24), (0, .inr (.inr (.inl 2))), (1, .inl a0)] rfl rfl (by decide) ?_
      have lp12 : ∀ (n11 : Nat) (h13 : PH) (x15 : Int32), INV h13 → FR [2, 3] h h13 → FR [2, 3] h h13 → (-1000) ≤ x15.toInt ∧ x15.toInt ≤ 24 → 0 ≤ (h13.1 2 1).toInt ∧ (h13.1 2 1).toInt ≤ 500 → (8 * (h13.1 2 1).toInt + x15.toInt ≤ 3992) → (x15.toInt - (-1000)).toNat < n11 → RUN d_X7_putNumber 12 [(2, .inl x15), (0, .inr (.inr (.inl 2))), (1, .inl a0)] [] h13 (q_X7_putNumber h a0) := by
        intro n11
        induction n11 with
        | zero => intro h13 x15 m17 m18 m19 m20 m21 m22 hz; exact absurd hz (Nat.not_lt_zero _)
        | succ n11 ih16 =>
          intro h13 x15 hI fr fl14 m20 m21 m22 hz
          refine R_iload_n (k := 2) rfl rfl rfl ?_
          refine N_if_lt (a := x15.toInt) 45 rfl rfl rfl (fun c23 => ?_) (fun c23 => ?_)
          · exact R_vret rfl rfl ⟨hI, fr, trivial, rfl⟩
          · refine R_aload_n (k := 0) rfl rfl rfl ?_
            refine R_getf_r (j := 0) rfl ft_7_9 sh_2 rfl ?_
            refine R_aload_n (k := 0) rfl rfl rfl ?_
            refine R_getf_i (j := 1) rfl ft_7_15 sh_2 rfl ?_
            refine R_iload_n (k := 1) rfl rfl rfl ?_
            refine R_iload_n (k := 2) rfl rfl rfl ?_
            refine R_ishr rfl ?_
            refine N_any (fun x24 => ?_)
            refine R_i2b rfl ?_
            refine N_any (fun x25 => ?_)
            refine K_bast (a := (h13.1 2 1).toInt) rfl sh_3 rfl ⟨by omega, by omega⟩ hI (by decide) rfl fr (by decide) (fun h26 g27 hI fr => ?_)
            have fl14 : FR [2, 3] h h26 := by rw [g27]; exact FR_wI _ _ fl14 (by decide)
            have s28 : (h26.1 2 1).toInt = (h13.1 2 1).toInt := by rw [g27, wI_ne _ _ _ (by decide)]
            refine R_aload_n (k := 0) rfl rfl rfl ?_
            refine R_dup_r rfl ?_
            refine R_getf_i (j := 1) rfl ft_7_15 sh_2 rfl ?_
            refine R_iconst 1 rfl rfl ?_
            refine N_iadd (a := (h26.1 2 1).toInt) (b := 1) rfl rfl (by decide) (by omega) (fun x29 q30 => ?_)
            refine K_putf (j := 1) (lo := 0) (hi' := 500) rfl ft_7_15 sh_2 rfl hI (by decide) rfl (by omega) fr (by decide) (fun h31 g32 hI fr => ?_)
            have fl14 : FR [2, 3] h h31 := by rw [g32]; exact FR_wI _ _ fl14 (by decide)
            have s33 : (h31.1 2 1).toInt = x29.toInt := by rw [g32, wI_is]
            refine N_iinc (a := x15.toInt) (c := (-8)) (fun w => [(2, .inl w), (0, .inr (.inr (.inl 2))), (1, .inl a0)]) rfl rfl (fun _ => rfl) (by decide) rfl (by decide) (by omega) (fun x34 q35 => ?_)
            refine R_goto 12 rfl rfl ?_
            exact RUN_weak (psub_cons rfl (psub_cons rfl (psub_cons rfl (psub_nil _)))) (ih16 h31 x34 hI fr fl14 (by omega) (by omega) (by omega) (by omega))
      have k36 : (24 : Int32).toInt = 24 := by decide
      exact lp12 _ h (24 : Int32) hI fr (FR.rf _ _) (by decide) (by omega) (by omega) (Nat.lt_succ_self _)
    · exfalso; omega
abbrev q_X8_feed (h : PH) (a0 : Int32) (a1 : Int32) (a2 : Int32) (a3 : Int32) (a4 : Int32) : Option PV → PH → Prop := fun r h' => INV h' ∧ FR [2, 3] h h' ∧ (True) ∧ ∃ z : Int32, r = some (.inl z) ∧ (((-1) ≤ z.toInt ∧ z.toInt ≤ 500))
set_option maxHeartbeats 4000000 in
set_option maxRecDepth 100000 in
theorem k_X8_feed (h : PH) (hI : INV h) (a0 : Int32) (a1 : Int32) (a2 : Int32) (a3 : Int32) (a4 : Int32) : CALL d_X8_feed [.inr (.inr (.inl 0)), .inl a0, .inl a1, .inl a2, .inl a3, .inl a4] h (q_X8_feed h a0 a1 a2 a3 a4) := by
  show RUN d_X8_feed 0 [(0, .inr (.inr (.inl 0))), (1, .inl a0), (2, .inl a1), (3, .inl a2), (4, .inl a3), (5, .inl a4)] [] h _
  have b1 := i_rng a0
  have b2 := i_rng a1
  have b3 := i_rng a2
  have b4 := i_rng a3
  have b5 := i_rng a4
  have fr : FR [2, 3] h h := FR.rf _ _
  refine R_aload_n (k := 0) rfl rfl rfl ?_
  refine R_getf_r (j := 1) rfl ft_8_20 sh_0 rfl ?_
  refine R_bipush 20 rfl rfl ?_
  have k6 : (20 : Int32).toInt = 20 := by decide
  refine R_callV (v := .inr (.inr (.inl 2))) (As := [.inl 20]) (rest := []) rfl mt_8_i84 pp_X7_hasRoom (by decide) rfl rfl rfl (Nat.le_of_ble_eq_true rfl) (Nat.le_of_ble_eq_true rfl) ((k_X7_hasRoom h hI (20 : Int32) (by decide)).mono (fun r7 h8 p9 => ?_))
  obtain ⟨rfl, x10, rfl, q11 | q11⟩ := p9
  · show RUN d_X8_feed 9 [(0, .inr (.inr (.inl 0))), (1, .inl a0), (2, .inl a1), (3, .inl a2), (4, .inl a3), (5, .inl a4)] [.inl x10] h _
    refine N_if_ne (a := x10.toInt) 14 rfl rfl rfl (fun c12 => ?_) (fun c12 => ?_)
    · exfalso; omega
    · refine R_iconst (-1) rfl rfl ?_
      exact R_iret rfl rfl rfl ⟨hI, fr, trivial, _, rfl, by rw [show ((-1) : Int32).toInt = (-1) from rfl] <;> omega⟩
  · have b13 : (0 : Int) ≤ (h.1 2 1).toInt ∧ (h.1 2 1).toInt ≤ 500 := hI.1 2 1
    show RUN d_X8_feed 9 [(0, .inr (.inr (.inl 0))), (1, .inl a0), (2, .inl a1), (3, .inl a2), (4, .inl a3), (5, .inl a4)] [.inl x10] h _
    refine N_if_ne (a := x10.toInt) 14 rfl rfl rfl (fun c14 => ?_) (fun c14 => ?_)
    · refine R_aload_n (k := 0) rfl rfl rfl ?_
      refine R_getf_r (j := 1) rfl ft_8_20 sh_0 rfl ?_
      refine R_iload_n (k := 1) rfl rfl rfl ?_
      refine R_callV (v := .inr (.inr (.inl 2))) (As := [.inl a0]) (rest := []) rfl mt_8_i90 pp_X7_putNumber (by decide) rfl rfl rfl (Nat.le_of_ble_eq_true rfl) (Nat.le_of_ble_eq_true rfl) ((k_X7_putNumber h hI a0).mono (fun r15 h16 p17 => ?_))
      obtain ⟨hJ, fj, -, rfl⟩ := p17
      have f18 := fj
      have fr := fr.trans fj (by decide)
      have hI := hJ
      show RUN d_X8_feed 22 [(0, .inr (.inr (.inl 0))), (1, .inl a0), (2, .inl a1), (3, .inl a2), (4, .inl a3), (5, .inl a4)] [] h16 _
      refine R_aload_n (k := 0) rfl rfl rfl ?_
      refine R_getf_r (j := 1) rfl ft_8_20 sh_0 rfl ?_
      refine R_iload_n (k := 2) rfl rfl rfl ?_
      refine R_callV (v := .inr (.inr (.inl 2))) (As := [.inl a1]) (rest := []) rfl mt_8_i90 pp_X7_putNumber (by decide) rfl rfl rfl (Nat.le_of_ble_eq_true rfl) (Nat.le_of_ble_eq_true rfl) ((k_X7_putNumber h16 hI a1).mono (fun r19 h20 p21 => ?_))
      obtain ⟨hJ, fj, -, rfl⟩ := p21
      have f22 := fj
      have fr := fr.trans fj (by decide)
      have hI := hJ
      show RUN d_X8_feed 30 [(0, .inr (.inr (.inl 0))), (1, .inl a0), (2, .inl a1), (3, .inl a2), (4, .inl a3), (5, .inl a4)] [] h20 _
      refine R_aload_n (k := 0) rfl rfl rfl ?_
      refine R_getf_r (j := 1) rfl ft_8_20 sh_0 rfl ?_
      refine R_iload_n (k := 3) rfl rfl rfl ?_
      refine R_callV (v := .inr (.inr (.inl 2))) (As := [.inl a2]) (rest := []) rfl mt_8_i90 pp_X7_putNumber (by decide) rfl rfl rfl (Nat.le_of_ble_eq_true rfl) (Nat.le_of_ble_eq_true rfl) ((k_X7_putNumber h20 hI a2).mono (fun r23 h24 p25 => ?_))
      obtain ⟨hJ, fj, -, rfl⟩ := p25
      have f26 := fj
      have fr := fr.trans fj (by decide)
      have hI := hJ
      show RUN d_X8_feed 38 [(0, .inr (.inr (.inl 0))), (1, .inl a0), (2, .inl a1), (3, .inl a2), (4, .inl a3), (5, .inl a4)] [] h24 _
      refine R_aload_n (k := 0) rfl rfl rfl ?_
      refine R_getf_r (j := 1) rfl ft_8_20 sh_0 rfl ?_
      refine R_iload (k := 4) rfl rfl ?_
      refine R_callV (v := .inr (.inr (.inl 2))) (As := [.inl a3]) (rest := []) rfl mt_8_i90 pp_X7_putNumber (by decide) rfl rfl rfl (Nat.le_of_ble_eq_true rfl) (Nat.le_of_ble_eq_true rfl) ((k_X7_putNumber h24 hI a3).mono (fun r27 h28 p29 => ?_))
      obtain ⟨hJ, fj, -, rfl⟩ := p29
      have f30 := fj
      have fr := fr.trans fj (by decide)
      have hI := hJ
      show RUN d_X8_feed 47 [(0, .inr (.inr (.inl 0))), (1, .inl a0), (2, .inl a1), (3, .inl a2), (4, .inl a3), (5, .inl a4)] [] h28 _
      refine R_aload_n (k := 0) rfl rfl rfl ?_
      refine R_getf_r (j := 1) rfl ft_8_20 sh_0 rfl ?_
      refine R_iload (k := 5) rfl rfl ?_
      refine R_callV (v := .inr (.inr (.inl 2))) (As := [.inl a4]) (rest := []) rfl mt_8_i90 pp_X7_putNumber (by decide) rfl rfl rfl (Nat.le_of_ble_eq_true rfl) (Nat.le_of_ble_eq_true rfl) ((k_X7_putNumber h28 hI a4).mono (fun r31 h32 p33 => ?_))
      obtain ⟨hJ, fj, -, rfl⟩ := p33
      have f34 := fj
      have fr := fr.trans fj (by decide)
      have hI := hJ
      show RUN d_X8_feed 56 [(0, .inr (.inr (.inl 0))), (1, .inl a0), (2, .inl a1), (3, .inl a2), (4, .inl a3), (5, .inl a4)] [] h32 _
      refine R_aload_n (k := 0) rfl rfl rfl ?_
      refine R_getf_r (j := 1) rfl ft_8_20 sh_0 rfl ?_
      refine R_getf_i (j := 1) rfl ft_8_94 sh_2 rfl ?_
      have b35 : (0 : Int) ≤ (h32.1 2 1).toInt ∧ (h32.1 2 1).toInt ≤ 500 := hI.1 2 1
      exact R_iret rfl rfl rfl ⟨hI, fr, trivial, _, rfl, by omega⟩
    · exfalso; omega
abbrev q_X9_feed (h : PH) (a0 : Int32) (a1 : Int32) (a2 : Int32) (a3 : Int32) (a4 : Int32) : Option PV → PH → Prop := fun r h' => INV h' ∧ FR [96, 100, 101] h h' ∧ (True) ∧ ∃ z : Int32, r = some (.inl z) ∧ (((-1) ≤ z.toInt ∧ z.toInt ≤ 500))
set_option maxHeartbeats 4000000 in
set_option maxRecDepth 100000 in
theorem k_X9_feed (h : PH) (hI : INV h) (a0 : Int32) (a1 : Int32) (a2 : Int32) (a3 : Int32) (a4 : Int32) : CALL d_X9_feed [.inr (.inr (.inl 96)), .inl a0, .inl a1, .inl a2, .inl a3, .inl a4] h (q_X9_feed h a0 a1 a2 a3 a4) := by
  show RUN d_X9_feed 0 [(0, .inr (.inr (.inl 96))), (1, .inl a0), (2, .inl a1), (3, .inl a2), (4, .inl a3), (5, .inl a4)] [] h _
  have b1 := i_rng a0
  have b2 := i_rng a1
  have b3 := i_rng a2
  have b4 := i_rng a3
  have b5 := i_rng a4
  have fr : FR [96, 100, 101] h h := FR.rf _ _
  refine R_aload_n (k := 0) rfl rfl rfl ?_
  refine R_getf_i (j := 5) rfl ft_9_136 sh_96 rfl ?_
  have b6 : (0 : Int) ≤ (h.1 96 5).toInt ∧ (h.1 96 5).toInt ≤ 500 := hI.1 96 5
  refine R_bipush 20 rfl rfl ?_
  refine N_iadd (a := (h.1 96 5).toInt) (b := 20) rfl rfl (by decide) (by omega) (fun x7 q8 => ?_)
  refine R_sipush 500 rfl rfl ?_
  refine N_icmp_le (a := x7.toInt) (b := 500) 15 rfl rfl rfl (by decide) (fun c9 => ?_) (fun c9 => ?_)
  · refine R_aload_n (k := 0) rfl rfl rfl ?_
    refine R_getf_r (j := 6) rfl ft_9_24 sh_96 rfl ?_
    refine R_iconst 0 rfl rfl ?_
    refine R_iload_n (k := 1) rfl rfl rfl ?_
    refine K_iast (a := 0) (lo := (-2147483648)) (hi' := 2147483647) rfl sh_101 (by decide) (by decide) hI (by decide) rfl (i_rng _) fr (by decide) (fun h10 g11 hI fr => ?_)
    have s12 : (h10.1 96 5).toInt = (h.1 96 5).toInt := by rw [g11, wI_ne _ _ _ (by decide)]
    have s13 : (h10.1 101 0).toInt = a0.toInt := by rw [g11, show (0 : Int32).toNatClampNeg = 0 from rfl, wI_is]
    refine R_aload_n (k := 0) rfl rfl rfl ?_
    refine R_getf_r (j := 6) rfl ft_9_24 sh_96 rfl ?_
    refine R_iconst 1 rfl rfl ?_
    refine R_iload_n (k := 2) rfl rfl rfl ?_
    refine K_iast (a := 1) (lo := (-2147483648)) (hi' := 2147483647) rfl sh_101 (by decide) (by decide) hI (by decide) rfl (i_rng _) fr (by decide) (fun h14 g15 hI fr => ?_)
    have s16 : (h14.1 96 5).toInt = (h10.1 96 5).toInt := by rw [g15, wI_ne _ _ _ (by decide)]
    have s17 : (h14.1 101 0).toInt = (h10.1 101 0).toInt := by rw [g15, show (1 : Int32).toNatClampNeg = 1 from rfl, wI_at (by decide)]
    have s18 : (h14.1 101 1).toInt = a1.toInt := by rw [g15, show (1 : Int32).toNatClampNeg = 1 from rfl, wI_is]
    refine R_aload_n (k := 0) rfl rfl rfl ?_
    refine R_getf_r (j := 6) rfl ft_9_24 sh_96 rfl ?_
    refine R_iconst 2 rfl rfl ?_
    refine R_iload_n (k := 3) rfl rfl rfl ?_
    refine K_iast (a := 2) (lo := (-2147483648)) (hi' := 2147483647) rfl sh_101 (by decide) (by decide) hI (by decide) rfl (i_rng _) fr (by decide) (fun h19 g20 hI fr => ?_)
    have s21 : (h19.1 96 5).toInt = (h14.1 96 5).toInt := by rw [g20, wI_ne _ _ _ (by decide)]
    have s22 : (h19.1 101 0).toInt = (h14.1 101 0).toInt := by rw [g20, show (2 : Int32).toNatClampNeg = 2 from rfl, wI_at (by decide)]
    have s23 : (h19.1 101 1).toInt = (h14.1 101 1).toInt := by rw [g20, show (2 : Int32).toNatClampNeg = 2 from rfl, wI_at (by decide)]
    have s24 : (h19.1 101 2).toInt = a2.toInt := by rw [g20, show (2 : Int32).toNatClampNeg = 2 from rfl, wI_is]
    refine R_aload_n (k := 0) rfl rfl rfl ?_
    refine R_getf_r (j := 6) rfl ft_9_24 sh_96 rfl ?_
    refine R_iconst 3 rfl rfl ?_
    refine R_iload (k := 4) rfl rfl ?_
    refine K_iast (a := 3) (lo := (-2147483648)) (hi' := 2147483647) rfl sh_101 (by decide) (by decide) hI (by decide) rfl (i_rng _) fr (by decide) (fun h25 g26 hI fr => ?_)
    have s27 : (h25.1 96 5).toInt = (h19.1 96 5).toInt := by rw [g26, wI_ne _ _ _ (by decide)]
    have s28 : (h25.1 101 0).toInt = (h19.1 101 0).toInt := by rw [g26, show (3 : Int32).toNatClampNeg = 3 from rfl, wI_at (by decide)]
    have s29 : (h25.1 101 1).toInt = (h19.1 101 1).toInt := by rw [g26, show (3 : Int32).toNatClampNeg = 3 from rfl, wI_at (by decide)]
    have s30 : (h25.1 101 2).toInt = (h19.1 101 2).toInt := by rw [g26, show (3 : Int32).toNatClampNeg = 3 from rfl, wI_at (by decide)]
    have s31 : (h25.1 101 3).toInt = a3.toInt := by rw [g26, show (3 : Int32).toNatClampNeg = 3 from rfl, wI_is]
    refine R_aload_n (k := 0) rfl rfl rfl ?_
    refine R_getf_r (j := 6) rfl ft_9_24 sh_96 rfl ?_
    refine R_iconst 4 rfl rfl ?_
    refine R_iload (k := 5) rfl rfl ?_
    refine K_iast (a := 4) (lo := (-2147483648)) (hi' := 2147483647) rfl sh_101 (by decide) (by decide) hI (by decide) rfl (i_rng _) fr (by decide) (fun h32 g33 hI fr => ?_)
    have s34 : (h32.1 96 5).toInt = (h25.1 96 5).toInt := by rw [g33, wI_ne _ _ _ (by decide)]
    have s35 : (h32.1 101 0).toInt = (h25.1 101 0).toInt := by rw [g33, show (4 : Int32).toNatClampNeg = 4 from rfl, wI_at (by decide)]
    have s36 : (h32.1 101 1).toInt = (h25.1 101 1).toInt := by rw [g33, show (4 : Int32).toNatClampNeg = 4 from rfl, wI_at (by decide)]
    have s37 : (h32.1 101 2).toInt = (h25.1 101 2).toInt := by rw [g33, show (4 : Int32).toNatClampNeg = 4 from rfl, wI_at (by decide)]
    have s38 : (h32.1 101 3).toInt = (h25.1 101 3).toInt := by rw [g33, show (4 : Int32).toNatClampNeg = 4 from rfl, wI_at (by decide)]
    have s39 : (h32.1 101 4).toInt = a4.toInt := by rw [g33, show (4 : Int32).toNatClampNeg = 4 from rfl, wI_is]
    refine R_iconst 0 rfl rfl ?_
    refine R_istore (k := 6) [(6, .inl 0), (0, .inr (.inr (.inl 96))), (1, .inl a0), (2, .inl a1), (3, .inl a2), (4, .inl a3), (5, .inl a4)] rfl rfl (by decide) ?_
    have lp41 : ∀ (n40 : Nat) (h42 : PH) (x44 : Int32), INV h42 → FR [96, 100, 101] h h42 → FR [96, 100] h32 h42 → 0 ≤ x44.toInt ∧ x44.toInt ≤ 20 → 0 ≤ (h42.1 96 5).toInt ∧ (h42.1 96 5).toInt ≤ 480 → (20 - x44.toInt).toNat < n40 → RUN d_X9_feed 55 [(6, .inl x44), (0, .inr (.inr (.inl 96))), (1, .inl a0), (2, .inl a1), (3, .inl a2), (4, .inl a3), (5, .inl a4)] [] h42 (q_X9_feed h a0 a1 a2 a3 a4) := by
      intro n40
      induction n40 with
      | zero => intro h42 x44 m46 m47 m48 m49 m50 hz; exact absurd hz (Nat.not_lt_zero _)
      | succ n40 ih45 =>
        intro h42 x44 hI fr fl43 m49 m50 hz
        have s51 : (h42.1 101 0).toInt = (h32.1 101 0).toInt := by rw [(fl43 101 (by decide)).1]
        have s52 : (h42.1 101 1).toInt = (h32.1 101 1).toInt := by rw [(fl43 101 (by decide)).1]
        have s53 : (h42.1 101 2).toInt = (h32.1 101 2).toInt := by rw [(fl43 101 (by decide)).1]
        have s54 : (h42.1 101 3).toInt = (h32.1 101 3).toInt := by rw [(fl43 101 (by decide)).1]
        have s55 : (h42.1 101 4).toInt = (h32.1 101 4).toInt := by rw [(fl43 101 (by decide)).1]
        refine R_iload (k := 6) rfl rfl ?_
        refine R_bipush 20 rfl rfl ?_
        refine N_icmp_ge (a := x44.toInt) (b := 20) 101 rfl rfl rfl (by decide) (fun c56 => ?_) (fun c56 => ?_)
        · refine R_aload_n (k := 0) rfl rfl rfl ?_
          refine R_dup_r rfl ?_
          refine R_getf_i (j := 5) rfl ft_9_136 sh_96 rfl ?_
          refine R_bipush 20 rfl rfl ?_
          refine N_iadd (a := (h42.1 96 5).toInt) (b := 20) rfl rfl (by decide) (by omega) (fun x57 q58 => ?_)
          refine K_putf (j := 5) (lo := 0) (hi' := 500) rfl ft_9_136 sh_96 rfl hI (by decide) rfl (by omega) fr (by decide) (fun h59 g60 hI fr => ?_)
          have fl43 : FR [96, 100] h32 h59 := by rw [g60]; exact FR_wI _ _ fl43 (by decide)
          have s61 : (h59.1 101 0).toInt = (h42.1 101 0).toInt := by rw [g60, wI_ne _ _ _ (by decide)]
          have s62 : (h59.1 101 1).toInt = (h42.1 101 1).toInt := by rw [g60, wI_ne _ _ _ (by decide)]
          have s63 : (h59.1 101 2).toInt = (h42.1 101 2).toInt := by rw [g60, wI_ne _ _ _ (by decide)]
          have s64 : (h59.1 101 3).toInt = (h42.1 101 3).toInt := by rw [g60, wI_ne _ _ _ (by decide)]
          have s65 : (h59.1 101 4).toInt = (h42.1 101 4).toInt := by rw [g60, wI_ne _ _ _ (by decide)]
          have s66 : (h59.1 96 5).toInt = x57.toInt := by rw [g60, wI_is]
          refine R_aload_n (k := 0) rfl rfl rfl ?_
          refine R_getf_i (j := 5) rfl ft_9_136 sh_96 rfl ?_
          exact R_iret rfl rfl rfl ⟨hI, fr, trivial, _, rfl, by omega⟩
        · refine R_aload_n (k := 0) rfl rfl rfl ?_
          refine R_getf_r (j := 4) rfl ft_9_20 sh_96 rfl ?_
          refine R_aload_n (k := 0) rfl rfl rfl ?_
          refine R_getf_i (j := 5) rfl ft_9_136 sh_96 rfl ?_
          refine R_iload (k := 6) rfl rfl ?_
          refine N_iadd (a := (h42.1 96 5).toInt) (b := x44.toInt) rfl rfl rfl (by omega) (fun x67 q68 => ?_)
          refine R_aload_n (k := 0) rfl rfl rfl ?_
          refine R_getf_r (j := 6) rfl ft_9_24 sh_96 rfl ?_
          refine R_iload (k := 6) rfl rfl ?_
          refine R_iconst 4 rfl rfl ?_
          refine N_idiv (a := x44.toInt) (b := 4) rfl rfl (by decide) (by omega) (by omega) (fun x69 q70 => ?_)
          refine R_iald rfl sh_101 ⟨by omega, by omega⟩ ?_
          refine N_any (fun x71 => ?_)
          refine R_bipush 24 rfl rfl ?_
          refine R_bipush 8 rfl rfl ?_
          refine R_iload (k := 6) rfl rfl ?_
          refine R_iconst 4 rfl rfl ?_
          refine N_irem (a := x44.toInt) (b := 4) rfl rfl (by decide) (by omega) (by omega) (fun x72 q73 => ?_)
          refine N_imul (a := 8) (b := x72.toInt) rfl (by decide) rfl (by omega) (fun x74 q75 => ?_)
          refine N_isub (a := 24) (b := x74.toInt) rfl (by decide) rfl (by omega) (fun x76 q77 => ?_)
          refine R_ishr rfl ?_
          refine N_any (fun x78 => ?_)
          refine R_i2b rfl ?_
          refine N_any (fun x79 => ?_)
          refine K_bast (a := x67.toInt) rfl sh_100 rfl ⟨by omega, by omega⟩ hI (by decide) rfl fr (by decide) (fun h80 g81 hI fr => ?_)
          have fl43 : FR [96, 100] h32 h80 := by rw [g81]; exact FR_wI _ _ fl43 (by decide)
          have s82 : (h80.1 96 5).toInt = (h42.1 96 5).toInt := by rw [g81, wI_ne _ _ _ (by decide)]
          have s83 : (h80.1 101 0).toInt = (h42.1 101 0).toInt := by rw [g81, wI_ne _ _ _ (by decide)]
          have s84 : (h80.1 101 1).toInt = (h42.1 101 1).toInt := by rw [g81, wI_ne _ _ _ (by decide)]
          have s85 : (h80.1 101 2).toInt = (h42.1 101 2).toInt := by rw [g81, wI_ne _ _ _ (by decide)]
          have s86 : (h80.1 101 3).toInt = (h42.1 101 3).toInt := by rw [g81, wI_ne _ _ _ (by decide)]
          have s87 : (h80.1 101 4).toInt = (h42.1 101 4).toInt := by rw [g81, wI_ne _ _ _ (by decide)]
          refine N_iinc (a := x44.toInt) (c := 1) (fun w => [(6, .inl w), (0, .inr (.inr (.inl 96))), (1, .inl a0), (2, .inl a1), (3, .inl a2), (4, .inl a3), (5, .inl a4)]) rfl rfl (fun _ => rfl) (by decide) rfl (by decide) (by omega) (fun x88 q89 => ?_)
          refine R_goto 55 rfl rfl ?_
          exact RUN_weak (psub_cons rfl (psub_cons rfl (psub_cons rfl (psub_cons rfl (psub_cons rfl (psub_cons rfl (psub_cons rfl (psub_nil _)))))))) (ih45 h80 x88 hI fr fl43 (by omega) (by omega) (by omega))
    exact lp41 _ h32 (0 : Int32) hI fr (FR.rf _ _) (by decide) (by omega) (Nat.lt_succ_self _)
  · refine R_iconst (-1) rfl rfl ?_
    exact R_iret rfl rfl rfl ⟨hI, fr, trivial, _, rfl, by rw [show ((-1) : Int32).toInt = (-1) from rfl] <;> omega⟩
abbrev q_X8_end (h : PH) (a0 : Int32) : Option PV → PH → Prop := fun r h' => INV h' ∧ FR [2] h h' ∧ (True) ∧ ∃ z : Int32, r = some (.inl z) ∧ (((-1) ≤ z.toInt ∧ z.toInt ≤ 500))
set_option maxHeartbeats 4000000 in
set_option maxRecDepth 100000 in
theorem k_X8_end (h : PH) (hI : INV h) (a0 : Int32) : CALL d_X8_end [.inr (.inr (.inl 0)), .inl a0] h (q_X8_end h a0) := by
  show RUN d_X8_end 0 [(0, .inr (.inr (.inl 0))), (1, .inl a0)] [] h _
  have b1 := i_rng a0
  have fr : FR [2] h h := FR.rf _ _
  refine R_iload_n (k := 1) rfl rfl rfl ?_
  refine N_if_lt (a := a0.toInt) 15 rfl rfl rfl (fun c2 => ?_) (fun c2 => ?_)
  · refine R_iconst (-1) rfl rfl ?_
    exact R_iret rfl rfl rfl ⟨hI, fr, trivial, _, rfl, by rw [show ((-1) : Int32).toInt = (-1) from rfl] <;> omega⟩
  · refine R_iload_n (k := 1) rfl rfl rfl ?_
    refine R_aload_n (k := 0) rfl rfl rfl ?_
    refine R_getf_r (j := 1) rfl ft_8_20 sh_0 rfl ?_
    refine R_getf_i (j := 1) rfl ft_8_94 sh_2 rfl ?_
    have b3 : (0 : Int) ≤ (h.1 2 1).toInt ∧ (h.1 2 1).toInt ≤ 500 := hI.1 2 1
    refine N_icmp_le (a := a0.toInt) (b := (h.1 2 1).toInt) 17 rfl rfl rfl rfl (fun c4 => ?_) (fun c4 => ?_)
    · refine R_aload_n (k := 0) rfl rfl rfl ?_
      refine R_getf_r (j := 1) rfl ft_8_20 sh_0 rfl ?_
      refine R_iload_n (k := 1) rfl rfl rfl ?_
      refine K_putf (j := 1) (lo := 0) (hi' := 500) rfl ft_8_94 sh_2 rfl hI (by decide) rfl (by omega) fr (by decide) (fun h5 g6 hI fr => ?_)
      have s7 : (h5.1 2 1).toInt = a0.toInt := by rw [g6, wI_is]
      refine R_iload_n (k := 1) rfl rfl rfl ?_
      exact R_iret rfl rfl rfl ⟨hI, fr, trivial, _, rfl, by omega⟩
    · refine R_iconst (-1) rfl rfl ?_
      exact R_iret rfl rfl rfl ⟨hI, fr, trivial, _, rfl, by rw [show ((-1) : Int32).toInt = (-1) from rfl] <;> omega⟩
abbrev q_X9_in (h : PH) (a0 : Int64) (a1 : Int64) (a2 : Int64) : Option PV → PH → Prop := fun r h' => h = h' ∧ ∃ z : Int32, r = some (.inl z) ∧ ((z.toInt = 0 ∧ a0.toInt ≤ a1.toInt + (-1)) ∨ (z.toInt = 0 ∧ a1.toInt ≤ a0.toInt + 0 ∧ a2.toInt ≤ a0.toInt + (-1)) ∨ (z.toInt = 1 ∧ a1.toInt ≤ a0.toInt + 0 ∧ a0.toInt ≤ a2.toInt + 0))
set_option maxHeartbeats 4000000 in
set_option maxRecDepth 100000 in
theorem k_X9_in (h : PH) (hI : INV h) (a0 : Int64) (a1 : Int64) (a2 : Int64) : CALL d_X9_in [.inr (.inl a0), .inr (.inl a1), .inr (.inl a2)] h (q_X9_in h a0 a1 a2) := by
  show RUN d_X9_in 0 [(0, .inr (.inl a0)), (2, .inr (.inl a1)), (4, .inr (.inl a2))] [] h _
  refine R_lload_n (k := 0) rfl rfl rfl ?_
  refine R_lload_n (k := 2) rfl rfl rfl ?_
  refine N_lcmp (a := a0.toInt) (b := a1.toInt) rfl rfl rfl (fun x1 q2 => ?_)
  refine N_if_lt (a := x1.toInt) 17 rfl rfl rfl (fun c3 => ?_) (fun c3 => ?_)
  · refine R_iconst 0 rfl rfl ?_
    exact R_iret rfl rfl rfl ⟨rfl, _, rfl, by rw [show (0 : Int32).toInt = 0 from rfl] <;> omega⟩
  · refine R_lload_n (k := 0) rfl rfl rfl ?_
    refine R_lload (k := 4) rfl rfl ?_
    refine N_lcmp (a := a0.toInt) (b := a2.toInt) rfl rfl rfl (fun x4 q5 => ?_)
    refine N_if_gt (a := x4.toInt) 17 rfl rfl rfl (fun c6 => ?_) (fun c6 => ?_)
    · refine R_iconst 0 rfl rfl ?_
      exact R_iret rfl rfl rfl ⟨rfl, _, rfl, by rw [show (0 : Int32).toInt = 0 from rfl] <;> omega⟩
    · refine R_iconst 1 rfl rfl ?_
      refine R_goto 18 rfl rfl ?_
      exact R_iret rfl rfl rfl ⟨rfl, _, rfl, by rw [show (1 : Int32).toInt = 1 from rfl] <;> omega⟩
abbrev q_X9_end (h : PH) (a0 : Int32) : Option PV → PH → Prop := fun r h' => INV h' ∧ FR [96] h h' ∧ (True) ∧ ∃ z : Int32, r = some (.inl z) ∧ (((-1) ≤ z.toInt ∧ z.toInt ≤ 500))
set_option maxHeartbeats 4000000 in
set_option maxRecDepth 100000 in
theorem k_X9_end (h : PH) (hI : INV h) (a0 : Int32) : CALL d_X9_end [.inr (.inr (.inl 96)), .inl a0] h (q_X9_end h a0) := by
  show RUN d_X9_end 0 [(0, .inr (.inr (.inl 96))), (1, .inl a0)] [] h _
  have b1 := i_rng a0
  have fr : FR [96] h h := FR.rf _ _
  refine R_iload_n (k := 1) rfl rfl rfl ?_
  refine N_i2l rfl (fun w2 q3 => ?_)
  refine R_lconst 0 rfl rfl ?_
  refine R_aload_n (k := 0) rfl rfl rfl ?_
  refine R_getf_i (j := 5) rfl ft_9_136 sh_96 rfl ?_
  have b4 : (0 : Int) ≤ (h.1 96 5).toInt ∧ (h.1 96 5).toInt ≤ 500 := hI.1 96 5
  refine N_i2l rfl (fun w5 q6 => ?_)
  have k7 : (0 : Int64).toInt = 0 := by decide
  refine R_callS (As := [.inr (.inl w2), .inr (.inl 0), .inr (.inl w5)]) (rest := []) rfl mt_9_i125 (by decide) pp_X9_in (by decide) rfl rfl (Nat.le_of_ble_eq_true rfl) (Nat.le_of_ble_eq_true rfl) ((k_X9_in h hI w2 (0 : Int64) w5).mono (fun r8 h9 p10 => ?_))
  obtain ⟨rfl, x11, rfl, q12 | q12 | q12⟩ := p10
  · show RUN d_X9_end 11 [(0, .inr (.inr (.inl 96))), (1, .inl a0)] [.inl x11] h _
    refine N_if_ne (a := x11.toInt) 16 rfl rfl rfl (fun c13 => ?_) (fun c13 => ?_)
    · exfalso; omega
    · refine R_iconst (-1) rfl rfl ?_
      exact R_iret rfl rfl rfl ⟨hI, fr, trivial, _, rfl, by rw [show ((-1) : Int32).toInt = (-1) from rfl] <;> omega⟩
  · show RUN d_X9_end 11 [(0, .inr (.inr (.inl 96))), (1, .inl a0)] [.inl x11] h _
    refine N_if_ne (a := x11.toInt) 16 rfl rfl rfl (fun c14 => ?_) (fun c14 => ?_)
    · exfalso; omega
    · refine R_iconst (-1) rfl rfl ?_
      exact R_iret rfl rfl rfl ⟨hI, fr, trivial, _, rfl, by rw [show ((-1) : Int32).toInt = (-1) from rfl] <;> omega⟩
  · show RUN d_X9_end 11 [(0, .inr (.inr (.inl 96))), (1, .inl a0)] [.inl x11] h _
    refine N_if_ne (a := x11.toInt) 16 rfl rfl rfl (fun c15 => ?_) (fun c15 => ?_)
    · refine R_aload_n (k := 0) rfl rfl rfl ?_
      refine R_iload_n (k := 1) rfl rfl rfl ?_
      refine K_putf (j := 5) (lo := 0) (hi' := 500) rfl ft_9_136 sh_96 rfl hI (by decide) rfl (by omega) fr (by decide) (fun h16 g17 hI fr => ?_)
      have s18 : (h16.1 96 5).toInt = a0.toInt := by rw [g17, wI_is]
      refine R_iload_n (k := 1) rfl rfl rfl ?_
      exact R_iret rfl rfl rfl ⟨hI, fr, trivial, _, rfl, by omega⟩
    · exfalso; omega
abbrev q_X1_clear (h : PH)  : Option PV → PH → Prop := fun r h' => INV h' ∧ FR [5] h h' ∧ (((h'.1 5 0).toInt = 0) ∧ ((h'.1 5 10).toInt = 0) ∧ True) ∧ r = none
set_option maxHeartbeats 4000000 in
set_option maxRecDepth 100000 in
theorem k_X1_clear (h : PH) (hI : INV h)  : CALL d_X1_clear [.inr (.inr (.inl 4))] h (q_X1_clear h) := by
  show RUN d_X1_clear 0 [(0, .inr (.inr (.inl 4)))] [] h _
  have fr : FR [5] h h := FR.rf _ _
  refine R_iconst 0 rfl rfl ?_
  refine R_istore_n (k := 1) rfl [(1, .inl 0), (0, .inr (.inr (.inl 4)))] rfl rfl (by decide) ?_
  refine R_iload_n (k := 1) rfl rfl rfl ?_
  refine R_bipush 11 rfl rfl ?_
  refine N_icmp_ge (a := 0) (b := 11) 21 rfl rfl (by decide) (by decide) (fun c1 => ?_) (fun c1 => ?_)
  · exfalso; omega
  · refine R_aload_n (k := 0) rfl rfl rfl ?_
    refine R_getf_r (j := 0) rfl ft_1_9 sh_4 rfl ?_
    refine R_iload_n (k := 1) rfl rfl rfl ?_
    refine R_iconst 0 rfl rfl ?_
    refine K_iast (a := 0) (lo := (-2147483648)) (hi' := 2147483647) rfl sh_5 (by decide) (by decide) hI (by decide) rfl (by decide) fr (by decide) (fun h2 g3 hI fr => ?_)
    have s4 : (h2.1 5 10).toInt = (h.1 5 10).toInt := by rw [g3, show (0 : Int32).toNatClampNeg = 0 from rfl, wI_at (by decide)]
    have s5 : (h2.1 5 0).toInt = 0 := by rw [g3, show (0 : Int32).toNatClampNeg = 0 from rfl, wI_is]; rfl
    refine R_iinc [(1, .inl 1), (0, .inr (.inr (.inl 4)))] rfl rfl rfl (by decide) ?_
    refine R_goto 2 rfl rfl ?_
    refine R_iload_n (k := 1) rfl rfl rfl ?_
    refine R_bipush 11 rfl rfl ?_
    refine N_icmp_ge (a := 1) (b := 11) 21 rfl rfl (by decide) (by decide) (fun c6 => ?_) (fun c6 => ?_)
    · exfalso; omega
    · refine R_aload_n (k := 0) rfl rfl rfl ?_
      refine R_getf_r (j := 0) rfl ft_1_9 sh_4 rfl ?_
      refine R_iload_n (k := 1) rfl rfl rfl ?_
      refine R_iconst 0 rfl rfl ?_
      refine K_iast (a := 1) (lo := (-2147483648)) (hi' := 2147483647) rfl sh_5 (by decide) (by decide) hI (by decide) rfl (by decide) fr (by decide) (fun h7 g8 hI fr => ?_)
      have s9 : (h7.1 5 10).toInt = (h2.1 5 10).toInt := by rw [g8, show (1 : Int32).toNatClampNeg = 1 from rfl, wI_at (by decide)]
      have s10 : (h7.1 5 0).toInt = (h2.1 5 0).toInt := by rw [g8, show (1 : Int32).toNatClampNeg = 1 from rfl, wI_at (by decide)]
      have s11 : (h7.1 5 1).toInt = 0 := by rw [g8, show (1 : Int32).toNatClampNeg = 1 from rfl, wI_is]; rfl
      refine R_iinc [(1, .inl 2), (0, .inr (.inr (.inl 4)))] rfl rfl rfl (by decide) ?_
      refine R_goto 2 rfl rfl ?_
      refine R_iload_n (k := 1) rfl rfl rfl ?_
      refine R_bipush 11 rfl rfl ?_
      refine N_icmp_ge (a := 2) (b := 11) 21 rfl rfl (by decide) (by decide) (fun c12 => ?_) (fun c12 => ?_)
      · exfalso; omega
      · refine R_aload_n (k := 0) rfl rfl rfl ?_
        refine R_getf_r (j := 0) rfl ft_1_9 sh_4 rfl ?_
        refine R_iload_n (k := 1) rfl rfl rfl ?_
        refine R_iconst 0 rfl rfl ?_
        refine K_iast (a := 2) (lo := (-2147483648)) (hi' := 2147483647) rfl sh_5 (by decide) (by decide) hI (by decide) rfl (by decide) fr (by decide) (fun h13 g14 hI fr => ?_)
        have s15 : (h13.1 5 10).toInt = (h7.1 5 10).toInt := by rw [g14, show (2 : Int32).toNatClampNeg = 2 from rfl, wI_at (by decide)]
        have s16 : (h13.1 5 0).toInt = (h7.1 5 0).toInt := by rw [g14, show (2 : Int32).toNatClampNeg = 2 from rfl, wI_at (by decide)]
        have s17 : (h13.1 5 1).toInt = (h7.1 5 1).toInt := by rw [g14, show (2 : Int32).toNatClampNeg = 2 from rfl, wI_at (by decide)]
        have s18 : (h13.1 5 2).toInt = 0 := by rw [g14, show (2 : Int32).toNatClampNeg = 2 from rfl, wI_is]; rfl
        refine R_iinc [(1, .inl 3), (0, .inr (.inr (.inl 4)))] rfl rfl rfl (by decide) ?_
        refine R_goto 2 rfl rfl ?_
        refine R_iload_n (k := 1) rfl rfl rfl ?_
        refine R_bipush 11 rfl rfl ?_
        refine N_icmp_ge (a := 3) (b := 11) 21 rfl rfl (by decide) (by decide) (fun c19 => ?_) (fun c19 => ?_)
        · exfalso; omega
        · refine R_aload_n (k := 0) rfl rfl rfl ?_
          refine R_getf_r (j := 0) rfl ft_1_9 sh_4 rfl ?_
          refine R_iload_n (k := 1) rfl rfl rfl ?_
          refine R_iconst 0 rfl rfl ?_
          refine K_iast (a := 3) (lo := (-2147483648)) (hi' := 2147483647) rfl sh_5 (by decide) (by decide) hI (by decide) rfl (by decide) fr (by decide) (fun h20 g21 hI fr => ?_)
          have s22 : (h20.1 5 10).toInt = (h13.1 5 10).toInt := by rw [g21, show (3 : Int32).toNatClampNeg = 3 from rfl, wI_at (by decide)]
          have s23 : (h20.1 5 0).toInt = (h13.1 5 0).toInt := by rw [g21, show (3 : Int32).toNatClampNeg = 3 from rfl, wI_at (by decide)]
          have s24 : (h20.1 5 1).toInt = (h13.1 5 1).toInt := by rw [g21, show (3 : Int32).toNatClampNeg = 3 from rfl, wI_at (by decide)]
          have s25 : (h20.1 5 2).toInt = (h13.1 5 2).toInt := by rw [g21, show (3 : Int32).toNatClampNeg = 3 from rfl, wI_at (by decide)]
          have s26 : (h20.1 5 3).toInt = 0 := by rw [g21, show (3 : Int32).toNatClampNeg = 3 from rfl, wI_is]; rfl
          refine R_iinc [(1, .inl 4), (0, .inr (.inr (.inl 4)))] rfl rfl rfl (by decide) ?_
          refine R_goto 2 rfl rfl ?_
          refine R_iload_n (k := 1) rfl rfl rfl ?_
          refine R_bipush 11 rfl rfl ?_
          refine N_icmp_ge (a := 4) (b := 11) 21 rfl rfl (by decide) (by decide) (fun c27 => ?_) (fun c27 => ?_)
          · exfalso; omega
          · refine R_aload_n (k := 0) rfl rfl rfl ?_
            refine R_getf_r (j := 0) rfl ft_1_9 sh_4 rfl ?_
            refine R_iload_n (k := 1) rfl rfl rfl ?_
            refine R_iconst 0 rfl rfl ?_
            refine K_iast (a := 4) (lo := (-2147483648)) (hi' := 2147483647) rfl sh_5 (by decide) (by decide) hI (by decide) rfl (by decide) fr (by decide) (fun h28 g29 hI fr => ?_)
            have s30 : (h28.1 5 10).toInt = (h20.1 5 10).toInt := by rw [g29, show (4 : Int32).toNatClampNeg = 4 from rfl, wI_at (by decide)]
            have s31 : (h28.1 5 0).toInt = (h20.1 5 0).toInt := by rw [g29, show (4 : Int32).toNatClampNeg = 4 from rfl, wI_at (by decide)]
            have s32 : (h28.1 5 1).toInt = (h20.1 5 1).toInt := by rw [g29, show (4 : Int32).toNatClampNeg = 4 from rfl, wI_at (by decide)]
            have s33 : (h28.1 5 2).toInt = (h20.1 5 2).toInt := by rw [g29, show (4 : Int32).toNatClampNeg = 4 from rfl, wI_at (by decide)]
            have s34 : (h28.1 5 3).toInt = (h20.1 5 3).toInt := by rw [g29, show (4 : Int32).toNatClampNeg = 4 from rfl, wI_at (by decide)]
            have s35 : (h28.1 5 4).toInt = 0 := by rw [g29, show (4 : Int32).toNatClampNeg = 4 from rfl, wI_is]; rfl
            refine R_iinc [(1, .inl 5), (0, .inr (.inr (.inl 4)))] rfl rfl rfl (by decide) ?_
            refine R_goto 2 rfl rfl ?_
            refine R_iload_n (k := 1) rfl rfl rfl ?_
            refine R_bipush 11 rfl rfl ?_
            refine N_icmp_ge (a := 5) (b := 11) 21 rfl rfl (by decide) (by decide) (fun c36 => ?_) (fun c36 => ?_)
            · exfalso; omega
            · refine R_aload_n (k := 0) rfl rfl rfl ?_
              refine R_getf_r (j := 0) rfl ft_1_9 sh_4 rfl ?_
              refine R_iload_n (k := 1) rfl rfl rfl ?_
              refine R_iconst 0 rfl rfl ?_
              refine K_iast (a := 5) (lo := 0) (hi' := 6) rfl sh_5 (by decide) (by decide) hI (by decide) rfl (by decide) fr (by decide) (fun h37 g38 hI fr => ?_)
              have s39 : (h37.1 5 10).toInt = (h28.1 5 10).toInt := by rw [g38, show (5 : Int32).toNatClampNeg = 5 from rfl, wI_at (by decide)]
              have s40 : (h37.1 5 0).toInt = (h28.1 5 0).toInt := by rw [g38, show (5 : Int32).toNatClampNeg = 5 from rfl, wI_at (by decide)]
              have s41 : (h37.1 5 1).toInt = (h28.1 5 1).toInt := by rw [g38, show (5 : Int32).toNatClampNeg = 5 from rfl, wI_at (by decide)]
              have s42 : (h37.1 5 2).toInt = (h28.1 5 2).toInt := by rw [g38, show (5 : Int32).toNatClampNeg = 5 from rfl, wI_at (by decide)]
              have s43 : (h37.1 5 3).toInt = (h28.1 5 3).toInt := by rw [g38, show (5 : Int32).toNatClampNeg = 5 from rfl, wI_at (by decide)]
              have s44 : (h37.1 5 4).toInt = (h28.1 5 4).toInt := by rw [g38, show (5 : Int32).toNatClampNeg = 5 from rfl, wI_at (by decide)]
              have s45 : (h37.1 5 5).toInt = 0 := by rw [g38, show (5 : Int32).toNatClampNeg = 5 from rfl, wI_is]; rfl
              refine R_iinc [(1, .inl 6), (0, .inr (.inr (.inl 4)))] rfl rfl rfl (by decide) ?_
              refine R_goto 2 rfl rfl ?_
              refine R_iload_n (k := 1) rfl rfl rfl ?_
              refine R_bipush 11 rfl rfl ?_
              refine N_icmp_ge (a := 6) (b := 11) 21 rfl rfl (by decide) (by decide) (fun c46 => ?_) (fun c46 => ?_)
              · exfalso; omega
              · refine R_aload_n (k := 0) rfl rfl rfl ?_
                refine R_getf_r (j := 0) rfl ft_1_9 sh_4 rfl ?_
                refine R_iload_n (k := 1) rfl rfl rfl ?_
                refine R_iconst 0 rfl rfl ?_
                refine K_iast (a := 6) (lo := 0) (hi' := 5) rfl sh_5 (by decide) (by decide) hI (by decide) rfl (by decide) fr (by decide) (fun h47 g48 hI fr => ?_)
                have s49 : (h47.1 5 10).toInt = (h37.1 5 10).toInt := by rw [g48, show (6 : Int32).toNatClampNeg = 6 from rfl, wI_at (by decide)]
                have s50 : (h47.1 5 0).toInt = (h37.1 5 0).toInt := by rw [g48, show (6 : Int32).toNatClampNeg = 6 from rfl, wI_at (by decide)]
                have s51 : (h47.1 5 1).toInt = (h37.1 5 1).toInt := by rw [g48, show (6 : Int32).toNatClampNeg = 6 from rfl, wI_at (by decide)]
                have s52 : (h47.1 5 2).toInt = (h37.1 5 2).toInt := by rw [g48, show (6 : Int32).toNatClampNeg = 6 from rfl, wI_at (by decide)]
                have s53 : (h47.1 5 3).toInt = (h37.1 5 3).toInt := by rw [g48, show (6 : Int32).toNatClampNeg = 6 from rfl, wI_at (by decide)]
                have s54 : (h47.1 5 4).toInt = (h37.1 5 4).toInt := by rw [g48, show (6 : Int32).toNatClampNeg = 6 from rfl, wI_at (by decide)]
                have s55 : (h47.1 5 5).toInt = (h37.1 5 5).toInt := by rw [g48, show (6 : Int32).toNatClampNeg = 6 from rfl, wI_at (by decide)]
                have s56 : (h47.1 5 6).toInt = 0 := by rw [g48, show (6 : Int32).toNatClampNeg = 6 from rfl, wI_is]; rfl
                refine R_iinc [(1, .inl 7), (0, .inr (.inr (.inl 4)))] rfl rfl rfl (by decide) ?_
                refine R_goto 2 rfl rfl ?_
                refine R_iload_n (k := 1) rfl rfl rfl ?_
                refine R_bipush 11 rfl rfl ?_
                refine N_icmp_ge (a := 7) (b := 11) 21 rfl rfl (by decide) (by decide) (fun c57 => ?_) (fun c57 => ?_)
                · exfalso; omega
                · refine R_aload_n (k := 0) rfl rfl rfl ?_
                  refine R_getf_r (j := 0) rfl ft_1_9 sh_4 rfl ?_
                  refine R_iload_n (k := 1) rfl rfl rfl ?_
                  refine R_iconst 0 rfl rfl ?_
                  refine K_iast (a := 7) (lo := (-2147483648)) (hi' := 2147483647) rfl sh_5 (by decide) (by decide) hI (by decide) rfl (by decide) fr (by decide) (fun h58 g59 hI fr => ?_)
                  have s60 : (h58.1 5 10).toInt = (h47.1 5 10).toInt := by rw [g59, show (7 : Int32).toNatClampNeg = 7 from rfl, wI_at (by decide)]
                  have s61 : (h58.1 5 0).toInt = (h47.1 5 0).toInt := by rw [g59, show (7 : Int32).toNatClampNeg = 7 from rfl, wI_at (by decide)]
                  have s62 : (h58.1 5 1).toInt = (h47.1 5 1).toInt := by rw [g59, show (7 : Int32).toNatClampNeg = 7 from rfl, wI_at (by decide)]
                  have s63 : (h58.1 5 2).toInt = (h47.1 5 2).toInt := by rw [g59, show (7 : Int32).toNatClampNeg = 7 from rfl, wI_at (by decide)]
                  have s64 : (h58.1 5 3).toInt = (h47.1 5 3).toInt := by rw [g59, show (7 : Int32).toNatClampNeg = 7 from rfl, wI_at (by decide)]
                  have s65 : (h58.1 5 4).toInt = (h47.1 5 4).toInt := by rw [g59, show (7 : Int32).toNatClampNeg = 7 from rfl, wI_at (by decide)]
                  have s66 : (h58.1 5 5).toInt = (h47.1 5 5).toInt := by rw [g59, show (7 : Int32).toNatClampNeg = 7 from rfl, wI_at (by decide)]
                  have s67 : (h58.1 5 6).toInt = (h47.1 5 6).toInt := by rw [g59, show (7 : Int32).toNatClampNeg = 7 from rfl, wI_at (by decide)]
                  have s68 : (h58.1 5 7).toInt = 0 := by rw [g59, show (7 : Int32).toNatClampNeg = 7 from rfl, wI_is]; rfl
                  refine R_iinc [(1, .inl 8), (0, .inr (.inr (.inl 4)))] rfl rfl rfl (by decide) ?_
                  refine R_goto 2 rfl rfl ?_
                  refine R_iload_n (k := 1) rfl rfl rfl ?_
                  refine R_bipush 11 rfl rfl ?_
                  refine N_icmp_ge (a := 8) (b := 11) 21 rfl rfl (by decide) (by decide) (fun c69 => ?_) (fun c69 => ?_)
                  · exfalso; omega
                  · refine R_aload_n (k := 0) rfl rfl rfl ?_
                    refine R_getf_r (j := 0) rfl ft_1_9 sh_4 rfl ?_
                    refine R_iload_n (k := 1) rfl rfl rfl ?_
                    refine R_iconst 0 rfl rfl ?_
                    refine K_iast (a := 8) (lo := (-2147483648)) (hi' := 2147483647) rfl sh_5 (by decide) (by decide) hI (by decide) rfl (by decide) fr (by decide) (fun h70 g71 hI fr => ?_)
                    have s72 : (h70.1 5 10).toInt = (h58.1 5 10).toInt := by rw [g71, show (8 : Int32).toNatClampNeg = 8 from rfl, wI_at (by decide)]
                    have s73 : (h70.1 5 0).toInt = (h58.1 5 0).toInt := by rw [g71, show (8 : Int32).toNatClampNeg = 8 from rfl, wI_at (by decide)]
                    have s74 : (h70.1 5 1).toInt = (h58.1 5 1).toInt := by rw [g71, show (8 : Int32).toNatClampNeg = 8 from rfl, wI_at (by decide)]
                    have s75 : (h70.1 5 2).toInt = (h58.1 5 2).toInt := by rw [g71, show (8 : Int32).toNatClampNeg = 8 from rfl, wI_at (by decide)]
                    have s76 : (h70.1 5 3).toInt = (h58.1 5 3).toInt := by rw [g71, show (8 : Int32).toNatClampNeg = 8 from rfl, wI_at (by decide)]
                    have s77 : (h70.1 5 4).toInt = (h58.1 5 4).toInt := by rw [g71, show (8 : Int32).toNatClampNeg = 8 from rfl, wI_at (by decide)]
                    have s78 : (h70.1 5 5).toInt = (h58.1 5 5).toInt := by rw [g71, show (8 : Int32).toNatClampNeg = 8 from rfl, wI_at (by decide)]
                    have s79 : (h70.1 5 6).toInt = (h58.1 5 6).toInt := by rw [g71, show (8 : Int32).toNatClampNeg = 8 from rfl, wI_at (by decide)]
                    have s80 : (h70.1 5 7).toInt = (h58.1 5 7).toInt := by rw [g71, show (8 : Int32).toNatClampNeg = 8 from rfl, wI_at (by decide)]
                    have s81 : (h70.1 5 8).toInt = 0 := by rw [g71, show (8 : Int32).toNatClampNeg = 8 from rfl, wI_is]; rfl
                    refine R_iinc [(1, .inl 9), (0, .inr (.inr (.inl 4)))] rfl rfl rfl (by decide) ?_
                    refine R_goto 2 rfl rfl ?_
                    refine R_iload_n (k := 1) rfl rfl rfl ?_
                    refine R_bipush 11 rfl rfl ?_
                    refine N_icmp_ge (a := 9) (b := 11) 21 rfl rfl (by decide) (by decide) (fun c82 => ?_) (fun c82 => ?_)
                    · exfalso; omega
                    · refine R_aload_n (k := 0) rfl rfl rfl ?_
                      refine R_getf_r (j := 0) rfl ft_1_9 sh_4 rfl ?_
                      refine R_iload_n (k := 1) rfl rfl rfl ?_
                      refine R_iconst 0 rfl rfl ?_
                      refine K_iast (a := 9) (lo := 0) (hi' := 30) rfl sh_5 (by decide) (by decide) hI (by decide) rfl (by decide) fr (by decide) (fun h83 g84 hI fr => ?_)
                      have s85 : (h83.1 5 10).toInt = (h70.1 5 10).toInt := by rw [g84, show (9 : Int32).toNatClampNeg = 9 from rfl, wI_at (by decide)]
                      have s86 : (h83.1 5 0).toInt = (h70.1 5 0).toInt := by rw [g84, show (9 : Int32).toNatClampNeg = 9 from rfl, wI_at (by decide)]
                      have s87 : (h83.1 5 1).toInt = (h70.1 5 1).toInt := by rw [g84, show (9 : Int32).toNatClampNeg = 9 from rfl, wI_at (by decide)]
                      have s88 : (h83.1 5 2).toInt = (h70.1 5 2).toInt := by rw [g84, show (9 : Int32).toNatClampNeg = 9 from rfl, wI_at (by decide)]
                      have s89 : (h83.1 5 3).toInt = (h70.1 5 3).toInt := by rw [g84, show (9 : Int32).toNatClampNeg = 9 from rfl, wI_at (by decide)]
                      have s90 : (h83.1 5 4).toInt = (h70.1 5 4).toInt := by rw [g84, show (9 : Int32).toNatClampNeg = 9 from rfl, wI_at (by decide)]
                      have s91 : (h83.1 5 5).toInt = (h70.1 5 5).toInt := by rw [g84, show (9 : Int32).toNatClampNeg = 9 from rfl, wI_at (by decide)]
                      have s92 : (h83.1 5 6).toInt = (h70.1 5 6).toInt := by rw [g84, show (9 : Int32).toNatClampNeg = 9 from rfl, wI_at (by decide)]
                      have s93 : (h83.1 5 7).toInt = (h70.1 5 7).toInt := by rw [g84, show (9 : Int32).toNatClampNeg = 9 from rfl, wI_at (by decide)]
                      have s94 : (h83.1 5 8).toInt = (h70.1 5 8).toInt := by rw [g84, show (9 : Int32).toNatClampNeg = 9 from rfl, wI_at (by decide)]
                      have s95 : (h83.1 5 9).toInt = 0 := by rw [g84, show (9 : Int32).toNatClampNeg = 9 from rfl, wI_is]; rfl
                      refine R_iinc [(1, .inl 10), (0, .inr (.inr (.inl 4)))] rfl rfl rfl (by decide) ?_
                      refine R_goto 2 rfl rfl ?_
                      refine R_iload_n (k := 1) rfl rfl rfl ?_
                      refine R_bipush 11 rfl rfl ?_
                      refine N_icmp_ge (a := 10) (b := 11) 21 rfl rfl (by decide) (by decide) (fun c96 => ?_) (fun c96 => ?_)
                      · exfalso; omega
                      · refine R_aload_n (k := 0) rfl rfl rfl ?_
                        refine R_getf_r (j := 0) rfl ft_1_9 sh_4 rfl ?_
                        refine R_iload_n (k := 1) rfl rfl rfl ?_
                        refine R_iconst 0 rfl rfl ?_
                        refine K_iast (a := 10) (lo := (-2147483648)) (hi' := 2147483647) rfl sh_5 (by decide) (by decide) hI (by decide) rfl (by decide) fr (by decide) (fun h97 g98 hI fr => ?_)
                        have s99 : (h97.1 5 0).toInt = (h83.1 5 0).toInt := by rw [g98, show (10 : Int32).toNatClampNeg = 10 from rfl, wI_at (by decide)]
                        have s100 : (h97.1 5 1).toInt = (h83.1 5 1).toInt := by rw [g98, show (10 : Int32).toNatClampNeg = 10 from rfl, wI_at (by decide)]
                        have s101 : (h97.1 5 2).toInt = (h83.1 5 2).toInt := by rw [g98, show (10 : Int32).toNatClampNeg = 10 from rfl, wI_at (by decide)]
                        have s102 : (h97.1 5 3).toInt = (h83.1 5 3).toInt := by rw [g98, show (10 : Int32).toNatClampNeg = 10 from rfl, wI_at (by decide)]
                        have s103 : (h97.1 5 4).toInt = (h83.1 5 4).toInt := by rw [g98, show (10 : Int32).toNatClampNeg = 10 from rfl, wI_at (by decide)]
                        have s104 : (h97.1 5 5).toInt = (h83.1 5 5).toInt := by rw [g98, show (10 : Int32).toNatClampNeg = 10 from rfl, wI_at (by decide)]
                        have s105 : (h97.1 5 6).toInt = (h83.1 5 6).toInt := by rw [g98, show (10 : Int32).toNatClampNeg = 10 from rfl, wI_at (by decide)]
                        have s106 : (h97.1 5 7).toInt = (h83.1 5 7).toInt := by rw [g98, show (10 : Int32).toNatClampNeg = 10 from rfl, wI_at (by decide)]
                        have s107 : (h97.1 5 8).toInt = (h83.1 5 8).toInt := by rw [g98, show (10 : Int32).toNatClampNeg = 10 from rfl, wI_at (by decide)]
                        have s108 : (h97.1 5 9).toInt = (h83.1 5 9).toInt := by rw [g98, show (10 : Int32).toNatClampNeg = 10 from rfl, wI_at (by decide)]
                        have s109 : (h97.1 5 10).toInt = 0 := by rw [g98, show (10 : Int32).toNatClampNeg = 10 from rfl, wI_is]; rfl
                        refine R_iinc [(1, .inl 11), (0, .inr (.inr (.inl 4)))] rfl rfl rfl (by decide) ?_
                        refine R_goto 2 rfl rfl ?_
                        refine R_iload_n (k := 1) rfl rfl rfl ?_
                        refine R_bipush 11 rfl rfl ?_
                        refine N_icmp_ge (a := 11) (b := 11) 21 rfl rfl (by decide) (by decide) (fun c110 => ?_) (fun c110 => ?_)
                        · exact R_vret rfl rfl ⟨hI, fr, ⟨by omega, by omega, trivial⟩, rfl⟩
                        · exfalso; omega
abbrev q_X7_byteAt (h : PH) (a0 : Int32) : Option PV → PH → Prop := fun r h' => h = h' ∧ ∃ z : Int32, r = some (.inl z) ∧ ((True))
set_option maxHeartbeats 4000000 in
set_option maxRecDepth 100000 in
theorem k_X7_byteAt (h : PH) (hI : INV h) (a0 : Int32) : CALL d_X7_byteAt [.inr (.inr (.inl 2)), .inl a0] h (q_X7_byteAt h a0) := by
  show RUN d_X7_byteAt 0 [(0, .inr (.inr (.inl 2))), (1, .inl a0)] [] h _
  have b1 := i_rng a0
  refine R_iload_n (k := 1) rfl rfl rfl ?_
  refine N_if_lt (a := a0.toInt) 21 rfl rfl rfl (fun c2 => ?_) (fun c2 => ?_)
  · refine R_iconst (-1) rfl rfl ?_
    exact R_iret rfl rfl rfl ⟨rfl, _, rfl, trivial⟩
  · refine R_iload_n (k := 1) rfl rfl rfl ?_
    refine R_aload_n (k := 0) rfl rfl rfl ?_
    refine R_getf_i (j := 1) rfl ft_7_15 sh_2 rfl ?_
    have b3 : (0 : Int) ≤ (h.1 2 1).toInt ∧ (h.1 2 1).toInt ≤ 500 := hI.1 2 1
    refine N_icmp_ge (a := a0.toInt) (b := (h.1 2 1).toInt) 21 rfl rfl rfl rfl (fun c4 => ?_) (fun c4 => ?_)
    · refine R_iconst (-1) rfl rfl ?_
      exact R_iret rfl rfl rfl ⟨rfl, _, rfl, trivial⟩
    · refine R_aload_n (k := 0) rfl rfl rfl ?_
      refine R_getf_r (j := 0) rfl ft_7_9 sh_2 rfl ?_
      refine R_iload_n (k := 1) rfl rfl rfl ?_
      refine R_bald rfl sh_3 ⟨by omega, by omega⟩ ?_
      refine N_any (fun x5 => ?_)
      refine R_goto 22 rfl rfl ?_
      exact R_iret rfl rfl rfl ⟨rfl, _, rfl, trivial⟩
abbrev q_X4_kindOf (h : PH) (a0 : Int32) : Option PV → PH → Prop := fun r h' => h = h' ∧ ∃ z : Int32, r = some (.inl z) ∧ ((0 ≤ z.toInt ∧ z.toInt ≤ 4))
set_option maxHeartbeats 4000000 in
set_option maxRecDepth 100000 in
theorem k_X4_kindOf (h : PH) (hI : INV h) (a0 : Int32) : CALL d_X4_kindOf [.inl a0] h (q_X4_kindOf h a0) := by
  show RUN d_X4_kindOf 0 [(0, .inl a0)] [] h _
  have b1 := i_rng a0
  refine R_iload_n (k := 0) rfl rfl rfl ?_
  refine R_bipush 97 rfl rfl ?_
  refine N_icmp_lt (a := a0.toInt) (b := 97) 14 rfl rfl rfl (by decide) (fun c2 => ?_) (fun c2 => ?_)
  · refine R_iload_n (k := 0) rfl rfl rfl ?_
    refine R_bipush 48 rfl rfl ?_
    refine N_icmp_lt (a := a0.toInt) (b := 48) 28 rfl rfl rfl (by decide) (fun c3 => ?_) (fun c3 => ?_)
    · refine R_iload_n (k := 0) rfl rfl rfl ?_
      refine R_bipush 32 rfl rfl ?_
      refine N_icmp_eq (a := a0.toInt) (b := 32) 40 rfl rfl rfl (by decide) (fun c4 => ?_) (fun c4 => ?_)
      · refine R_iconst 4 rfl rfl ?_
        exact R_iret rfl rfl rfl ⟨rfl, _, rfl, by rw [show (4 : Int32).toInt = 4 from rfl] <;> omega⟩
      · refine R_iload_n (k := 0) rfl rfl rfl ?_
        refine R_bipush 10 rfl rfl ?_
        refine N_icmp_ne (a := a0.toInt) (b := 10) 42 rfl rfl rfl (by decide) (fun c5 => ?_) (fun c5 => ?_)
        · refine R_iload_n (k := 0) rfl rfl rfl ?_
          refine R_bipush 59 rfl rfl ?_
          refine N_icmp_ne (a := a0.toInt) (b := 59) 52 rfl rfl rfl (by decide) (fun c6 => ?_) (fun c6 => ?_)
          · refine R_iconst 3 rfl rfl ?_
            exact R_iret rfl rfl rfl ⟨rfl, _, rfl, by rw [show (3 : Int32).toInt = 3 from rfl] <;> omega⟩
          · exfalso; omega
        · refine R_iconst 4 rfl rfl ?_
          exact R_iret rfl rfl rfl ⟨rfl, _, rfl, by rw [show (4 : Int32).toInt = 4 from rfl] <;> omega⟩
    · refine R_iload_n (k := 0) rfl rfl rfl ?_
      refine R_bipush 57 rfl rfl ?_
      refine N_icmp_gt (a := a0.toInt) (b := 57) 28 rfl rfl rfl (by decide) (fun c7 => ?_) (fun c7 => ?_)
      · refine R_iload_n (k := 0) rfl rfl rfl ?_
        refine R_bipush 32 rfl rfl ?_
        refine N_icmp_eq (a := a0.toInt) (b := 32) 40 rfl rfl rfl (by decide) (fun c8 => ?_) (fun c8 => ?_)
        · exfalso; omega
        · refine R_iload_n (k := 0) rfl rfl rfl ?_
          refine R_bipush 10 rfl rfl ?_
          refine N_icmp_ne (a := a0.toInt) (b := 10) 42 rfl rfl rfl (by decide) (fun c9 => ?_) (fun c9 => ?_)
          · refine R_iload_n (k := 0) rfl rfl rfl ?_
            refine R_bipush 59 rfl rfl ?_
            refine N_icmp_ne (a := a0.toInt) (b := 59) 52 rfl rfl rfl (by decide) (fun c10 => ?_) (fun c10 => ?_)
            · refine R_iconst 3 rfl rfl ?_
              exact R_iret rfl rfl rfl ⟨rfl, _, rfl, by rw [show (3 : Int32).toInt = 3 from rfl] <;> omega⟩
            · refine R_iconst 2 rfl rfl ?_
              refine R_goto 53 rfl rfl ?_
              exact R_iret rfl rfl rfl ⟨rfl, _, rfl, by rw [show (2 : Int32).toInt = 2 from rfl] <;> omega⟩
          · exfalso; omega
      · refine R_iconst 1 rfl rfl ?_
        exact R_iret rfl rfl rfl ⟨rfl, _, rfl, by rw [show (1 : Int32).toInt = 1 from rfl] <;> omega⟩
  · refine R_iload_n (k := 0) rfl rfl rfl ?_
    refine R_bipush 122 rfl rfl ?_
    refine N_icmp_gt (a := a0.toInt) (b := 122) 14 rfl rfl rfl (by decide) (fun c11 => ?_) (fun c11 => ?_)
    · refine R_iload_n (k := 0) rfl rfl rfl ?_
      refine R_bipush 48 rfl rfl ?_
      refine N_icmp_lt (a := a0.toInt) (b := 48) 28 rfl rfl rfl (by decide) (fun c12 => ?_) (fun c12 => ?_)
      · exfalso; omega
      · refine R_iload_n (k := 0) rfl rfl rfl ?_
        refine R_bipush 57 rfl rfl ?_
        refine N_icmp_gt (a := a0.toInt) (b := 57) 28 rfl rfl rfl (by decide) (fun c13 => ?_) (fun c13 => ?_)
        · refine R_iload_n (k := 0) rfl rfl rfl ?_
          refine R_bipush 32 rfl rfl ?_
          refine N_icmp_eq (a := a0.toInt) (b := 32) 40 rfl rfl rfl (by decide) (fun c14 => ?_) (fun c14 => ?_)
          · exfalso; omega
          · refine R_iload_n (k := 0) rfl rfl rfl ?_
            refine R_bipush 10 rfl rfl ?_
            refine N_icmp_ne (a := a0.toInt) (b := 10) 42 rfl rfl rfl (by decide) (fun c15 => ?_) (fun c15 => ?_)
            · refine R_iload_n (k := 0) rfl rfl rfl ?_
              refine R_bipush 59 rfl rfl ?_
              refine N_icmp_ne (a := a0.toInt) (b := 59) 52 rfl rfl rfl (by decide) (fun c16 => ?_) (fun c16 => ?_)
              · refine R_iconst 3 rfl rfl ?_
                exact R_iret rfl rfl rfl ⟨rfl, _, rfl, by rw [show (3 : Int32).toInt = 3 from rfl] <;> omega⟩
              · exfalso; omega
            · exfalso; omega
        · exfalso; omega
    · refine R_iconst 0 rfl rfl ?_
      exact R_iret rfl rfl rfl ⟨rfl, _, rfl, by rw [show (0 : Int32).toInt = 0 from rfl] <;> omega⟩
abbrev q_X4_nextToken (h : PH)  : Option PV → PH → Prop := fun r h' => INV h' ∧ FR [1] h h' ∧ ((h'.1 1 1).toInt = (h.1 1 1).toInt ∧ (h'.1 1 2).toInt = (h.1 1 2).toInt ∧ True) ∧ r = none
set_option maxHeartbeats 4000000 in
set_option maxRecDepth 100000 in
theorem k_X4_nextToken (h : PH) (hI : INV h)  : CALL d_X4_nextToken [.inr (.inr (.inl 1))] h (q_X4_nextToken h) := by
  show RUN d_X4_nextToken 0 [(0, .inr (.inr (.inl 1)))] [] h _
  have fr : FR [1] h h := FR.rf _ _
  have b1 : (0 : Int) ≤ (h.1 1 1).toInt ∧ (h.1 1 1).toInt ≤ 3 := hI.1 1 1
  refine R_aload_n (k := 0) rfl rfl rfl ?_
  refine R_getf_i (j := 1) rfl ft_4_18 sh_1 rfl ?_
  refine N_if_eq (a := (h.1 1 1).toInt) 8 rfl rfl rfl (fun c2 => ?_) (fun c2 => ?_)
  · have lp4 : ∀ (n3 : Nat) (h5 : PH), INV h5 → FR [1] h h5 → FR [1] h h5 → (h5.1 1 1).toInt = (h.1 1 1).toInt → (h5.1 1 2).toInt = (h.1 1 2).toInt → True → True → True → (2147483647 - (h5.1 1 5).toInt).toNat < n3 → RUN d_X4_nextToken 8 [(0, .inr (.inr (.inl 1)))] [] h5 (q_X4_nextToken h) := by
      intro n3
      induction n3 with
      | zero => intro h5 m8 m9 m10 m11 m12 m13 m14 m15 hz; exact absurd hz (Nat.not_lt_zero _)
      | succ n3 ih7 =>
        intro h5 hI fr fl6 m11 m12 m13 m14 m15 hz
        refine R_aload_n (k := 0) rfl rfl rfl ?_
        refine R_getf_i (j := 5) rfl ft_4_31 sh_1 rfl ?_
        refine R_aload_n (k := 0) rfl rfl rfl ?_
        refine R_getf_r (j := 0) rfl ft_4_12 sh_1 rfl ?_
        refine R_getf_i (j := 1) rfl ft_4_135 sh_2 rfl ?_
        have b16 : (0 : Int) ≤ (h5.1 2 1).toInt ∧ (h5.1 2 1).toInt ≤ 500 := hI.1 2 1
        refine N_icmp_ge (a := (h5.1 1 5).toInt) (b := (h5.1 2 1).toInt) 53 rfl rfl rfl rfl (fun c17 => ?_) (fun c17 => ?_)
        · refine R_aload_n (k := 0) rfl rfl rfl ?_
          refine R_aload_n (k := 0) rfl rfl rfl ?_
          refine R_getf_i (j := 5) rfl ft_4_31 sh_1 rfl ?_
          refine K_putf (j := 4) (lo := (-2147483648)) (hi' := 2147483647) rfl ft_4_28 sh_1 rfl hI (by decide) rfl (i_rng _) fr (by decide) (fun h18 g19 hI fr => ?_)
          have fl6 : FR [1] h h18 := by rw [g19]; exact FR_wI _ _ fl6 (by decide)
          have s20 : (h18.1 1 1).toInt = (h5.1 1 1).toInt := by rw [g19, wI_at (by decide)]
          have s21 : (h18.1 1 2).toInt = (h5.1 1 2).toInt := by rw [g19, wI_at (by decide)]
          have s22 : (h18.1 1 5).toInt = (h5.1 1 5).toInt := by rw [g19, wI_at (by decide)]
          have s23 : (h18.1 1 3).toInt = (h5.1 1 3).toInt := by rw [g19, wI_at (by decide)]
          have s24 : (h18.1 1 6).toInt = (h5.1 1 6).toInt := by rw [g19, wI_at (by decide)]
          have s25 : (h18.1 2 1).toInt = (h5.1 2 1).toInt := by rw [g19, wI_ne _ _ _ (by decide)]
          have s26 : (h18.1 1 4).toInt = (h5.1 1 5).toInt := by rw [g19, wI_is]
          refine R_aload_n (k := 0) rfl rfl rfl ?_
          refine R_getf_i (j := 5) rfl ft_4_31 sh_1 rfl ?_
          refine R_aload_n (k := 0) rfl rfl rfl ?_
          refine R_getf_r (j := 0) rfl ft_4_12 sh_1 rfl ?_
          refine R_getf_i (j := 1) rfl ft_4_135 sh_2 rfl ?_
          refine N_icmp_lt (a := (h18.1 1 5).toInt) (b := (h18.1 2 1).toInt) 81 rfl rfl rfl rfl (fun c27 => ?_) (fun c27 => ?_)
          · refine R_aload_n (k := 0) rfl rfl rfl ?_
            refine R_aload_n (k := 0) rfl rfl rfl ?_
            refine R_getf_r (j := 0) rfl ft_4_12 sh_1 rfl ?_
            refine R_aload_n (k := 0) rfl rfl rfl ?_
            refine R_getf_i (j := 5) rfl ft_4_31 sh_1 rfl ?_
            refine R_callV (v := .inr (.inr (.inl 2))) (As := [.inl (h18.1 1 5)]) (rest := [.inr (.inr (.inl 1))]) rfl mt_4_i127 pp_X7_byteAt (by decide) rfl rfl rfl (Nat.le_of_ble_eq_true rfl) (Nat.le_of_ble_eq_true rfl) ((k_X7_byteAt h18 hI (h18.1 1 5)).mono (fun r28 h29 p30 => ?_))
            obtain ⟨rfl, x31, rfl, q32⟩ := p30
            show RUN d_X4_nextToken 93 [(0, .inr (.inr (.inl 1)))] [.inl x31, .inr (.inr (.inl 1))] h18 _
            refine R_callS (As := [.inl x31]) (rest := [.inr (.inr (.inl 1))]) rfl mt_4_i137 (by decide) pp_X4_kindOf (by decide) rfl rfl (Nat.le_of_ble_eq_true rfl) (Nat.le_of_ble_eq_true rfl) ((k_X4_kindOf h18 hI x31).mono (fun r33 h34 p35 => ?_))
            obtain ⟨rfl, x36, rfl, q37⟩ := p35
            show RUN d_X4_nextToken 96 [(0, .inr (.inr (.inl 1)))] [.inl x36, .inr (.inr (.inl 1))] h18 _
            refine K_putf (j := 3) (lo := (-2147483648)) (hi' := 2147483647) rfl ft_4_25 sh_1 rfl hI (by decide) rfl (i_rng _) fr (by decide) (fun h38 g39 hI fr => ?_)
            have fl6 : FR [1] h h38 := by rw [g39]; exact FR_wI _ _ fl6 (by decide)
            have s40 : (h38.1 1 1).toInt = (h18.1 1 1).toInt := by rw [g39, wI_at (by decide)]
            have s41 : (h38.1 1 2).toInt = (h18.1 1 2).toInt := by rw [g39, wI_at (by decide)]
            have s42 : (h38.1 1 5).toInt = (h18.1 1 5).toInt := by rw [g39, wI_at (by decide)]
            have s43 : (h38.1 1 6).toInt = (h18.1 1 6).toInt := by rw [g39, wI_at (by decide)]
            have s44 : (h38.1 2 1).toInt = (h18.1 2 1).toInt := by rw [g39, wI_ne _ _ _ (by decide)]
            have s45 : (h38.1 1 4).toInt = (h18.1 1 4).toInt := by rw [g39, wI_at (by decide)]
            have s46 : (h38.1 1 3).toInt = x36.toInt := by rw [g39, wI_is]
            refine R_aload_n (k := 0) rfl rfl rfl ?_
            refine R_iconst 0 rfl rfl ?_
            refine K_putf (j := 6) (lo := (-2147483648)) (hi' := 2147483647) rfl ft_4_34 sh_1 rfl hI (by decide) rfl (by decide) fr (by decide) (fun h47 g48 hI fr => ?_)
            have fl6 : FR [1] h h47 := by rw [g48]; exact FR_wI _ _ fl6 (by decide)
            have s49 : (h47.1 1 1).toInt = (h38.1 1 1).toInt := by rw [g48, wI_at (by decide)]
            have s50 : (h47.1 1 2).toInt = (h38.1 1 2).toInt := by rw [g48, wI_at (by decide)]
            have s51 : (h47.1 1 5).toInt = (h38.1 1 5).toInt := by rw [g48, wI_at (by decide)]
            have s52 : (h47.1 2 1).toInt = (h38.1 2 1).toInt := by rw [g48, wI_ne _ _ _ (by decide)]
            have s53 : (h47.1 1 4).toInt = (h38.1 1 4).toInt := by rw [g48, wI_at (by decide)]
            have s54 : (h47.1 1 3).toInt = (h38.1 1 3).toInt := by rw [g48, wI_at (by decide)]
            have s55 : (h47.1 1 6).toInt = 0 := by rw [g48, wI_is]; rfl
            refine R_aload_n (k := 0) rfl rfl rfl ?_
            refine R_getf_i (j := 3) rfl ft_4_25 sh_1 rfl ?_
            refine N_if_eq (a := (h47.1 1 3).toInt) 130 rfl rfl rfl (fun c56 => ?_) (fun c56 => ?_)
            · have lp58 : ∀ (n57 : Nat) (h59 : PH), INV h59 → FR [1] h h59 → FR [1] h47 h59 → (h59.1 1 1).toInt = (h47.1 1 1).toInt → (h59.1 1 2).toInt = (h47.1 1 2).toInt → (h59.1 1 4).toInt = (h47.1 1 4).toInt → (h59.1 1 3).toInt = (h47.1 1 3).toInt → 2 ≤ (h59.1 1 5).toInt ∧ (h59.1 1 5).toInt ≤ 495 → (h59.1 1 6).toInt ≤ 1000000 → (h59.1 1 5).toInt ≤ (h47.1 1 1).toInt + 494 → (h59.1 1 5).toInt ≤ (h47.1 2 1).toInt + (-1) → (h47.1 2 1).toInt ≤ (h59.1 1 5).toInt + 0 → (h59.1 1 5).toInt ≤ (h47.1 1 4).toInt + (-1) → (h47.1 1 4).toInt ≤ (h59.1 1 5).toInt + 0 → (h59.1 1 5).toInt ≤ (h47.1 1 3).toInt + 494 → (495 - (h59.1 1 5).toInt).toNat < n57 → RUN d_X4_nextToken 130 [(0, .inr (.inr (.inl 1)))] [] h59 (q_X4_nextToken h) := by
                intro n57
                induction n57 with
                | zero => intro h59 m62 m63 m64 m65 m66 m67 m68 m69 m70 m71 m72 m73 m74 m75 m76 hz; exact absurd hz (Nat.not_lt_zero _)
                | succ n57 ih61 =>
                  intro h59 hI fr fl60 m65 m66 m67 m68 m69 m70 m71 m72 m73 m74 m75 m76 hz
                  have s77 : (h59.1 2 1).toInt = (h47.1 2 1).toInt := by rw [(fl60 2 (by decide)).1]
                  have fl6 : FR [1] h h59 := fl6.trans fl60 (by decide)
                  refine R_aload_n (k := 0) rfl rfl rfl ?_
                  refine R_getf_i (j := 5) rfl ft_4_31 sh_1 rfl ?_
                  refine R_aload_n (k := 0) rfl rfl rfl ?_
                  refine R_getf_r (j := 0) rfl ft_4_12 sh_1 rfl ?_
                  refine R_getf_i (j := 1) rfl ft_4_135 sh_2 rfl ?_
                  refine N_icmp_ge (a := (h59.1 1 5).toInt) (b := (h59.1 2 1).toInt) 209 rfl rfl rfl rfl (fun c78 => ?_) (fun c78 => ?_)
                  · exact R_vret rfl rfl ⟨hI, fr, ⟨by omega, by omega, trivial⟩, rfl⟩
                  · refine R_aload_n (k := 0) rfl rfl rfl ?_
                    refine R_getf_r (j := 0) rfl ft_4_12 sh_1 rfl ?_
                    refine R_aload_n (k := 0) rfl rfl rfl ?_
                    refine R_getf_i (j := 5) rfl ft_4_31 sh_1 rfl ?_
                    refine R_callV (v := .inr (.inr (.inl 2))) (As := [.inl (h59.1 1 5)]) (rest := []) rfl mt_4_i127 pp_X7_byteAt (by decide) rfl rfl rfl (Nat.le_of_ble_eq_true rfl) (Nat.le_of_ble_eq_true rfl) ((k_X7_byteAt h59 hI (h59.1 1 5)).mono (fun r79 h80 p81 => ?_))
                    obtain ⟨rfl, x82, rfl, q83⟩ := p81
                    show RUN d_X4_nextToken 155 [(0, .inr (.inr (.inl 1)))] [.inl x82] h59 _
                    refine R_callS (As := [.inl x82]) (rest := []) rfl mt_4_i137 (by decide) pp_X4_kindOf (by decide) rfl rfl (Nat.le_of_ble_eq_true rfl) (Nat.le_of_ble_eq_true rfl) ((k_X4_kindOf h59 hI x82).mono (fun r84 h85 p86 => ?_))
                    obtain ⟨rfl, x87, rfl, q88⟩ := p86
                    show RUN d_X4_nextToken 158 [(0, .inr (.inr (.inl 1)))] [.inl x87] h59 _
                    refine R_aload_n (k := 0) rfl rfl rfl ?_
                    refine R_getf_i (j := 3) rfl ft_4_25 sh_1 rfl ?_
                    refine N_icmp_ne (a := x87.toInt) (b := (h59.1 1 3).toInt) 209 rfl rfl rfl rfl (fun c89 => ?_) (fun c89 => ?_)
                    · exact R_vret rfl rfl ⟨hI, fr, ⟨by omega, by omega, trivial⟩, rfl⟩
                    · refine R_aload_n (k := 0) rfl rfl rfl ?_
                      refine R_ldc_i (x := 1000000) rfl kt_4_140 ?_
                      refine R_aload_n (k := 0) rfl rfl rfl ?_
                      refine R_getf_i (j := 6) rfl ft_4_34 sh_1 rfl ?_
                      refine R_bipush 10 rfl rfl ?_
                      have b90 := i_rng (h59.1 1 6)
                      refine R_imul rfl ?_
                      refine N_any (fun x91 => ?_)
                      refine R_aload_n (k := 0) rfl rfl rfl ?_
                      refine R_getf_r (j := 0) rfl ft_4_12 sh_1 rfl ?_
                      refine R_aload_n (k := 0) rfl rfl rfl ?_
                      refine R_getf_i (j := 5) rfl ft_4_31 sh_1 rfl ?_
                      refine R_callV (v := .inr (.inr (.inl 2))) (As := [.inl (h59.1 1 5)]) (rest := [.inl x91, .inl 1000000, .inr (.inr (.inl 1))]) rfl mt_4_i127 pp_X7_byteAt (by decide) rfl rfl rfl (Nat.le_of_ble_eq_true rfl) (Nat.le_of_ble_eq_true rfl) ((k_X7_byteAt h59 hI (h59.1 1 5)).mono (fun r92 h93 p94 => ?_))
                      obtain ⟨rfl, x95, rfl, q96⟩ := p94
                      show RUN d_X4_nextToken 186 [(0, .inr (.inr (.inl 1)))] [.inl x95, .inl x91, .inl 1000000, .inr (.inr (.inl 1))] h59 _
                      have b97 := i_rng x91
                      have b98 := i_rng x95
                      refine R_iadd rfl ?_
                      refine N_any (fun x99 => ?_)
                      refine R_bipush 48 rfl rfl ?_
                      have b100 := i_rng x99
                      refine R_isub rfl ?_
                      refine N_any (fun x101 => ?_)
                      refine N_min (a := 1000000) (b := x101.toInt) rfl mt_4_i141 (by decide) rfl ⟨by decide, by decide, Nat.le_of_ble_eq_true rfl⟩ (fun x102 q103 => ?_)
                      refine K_putf (j := 6) (lo := (-2147483648)) (hi' := 2147483647) rfl ft_4_34 sh_1 rfl hI (by decide) rfl (i_rng _) fr (by decide) (fun h104 g105 hI fr => ?_)
                      have fl60 : FR [1] h47 h104 := by rw [g105]; exact FR_wI _ _ fl60 (by decide)
                      have fl6 : FR [1] h h104 := by rw [g105]; exact FR_wI _ _ fl6 (by decide)
                      have s106 : (h104.1 1 1).toInt = (h59.1 1 1).toInt := by rw [g105, wI_at (by decide)]
                      have s107 : (h104.1 1 2).toInt = (h59.1 1 2).toInt := by rw [g105, wI_at (by decide)]
                      have s108 : (h104.1 1 5).toInt = (h59.1 1 5).toInt := by rw [g105, wI_at (by decide)]
                      have s109 : (h104.1 2 1).toInt = (h59.1 2 1).toInt := by rw [g105, wI_ne _ _ _ (by decide)]
                      have s110 : (h104.1 1 4).toInt = (h59.1 1 4).toInt := by rw [g105, wI_at (by decide)]
                      have s111 : (h104.1 1 3).toInt = (h59.1 1 3).toInt := by rw [g105, wI_at (by decide)]
                      have s112 : (h104.1 1 6).toInt = x102.toInt := by rw [g105, wI_is]
                      refine R_aload_n (k := 0) rfl rfl rfl ?_
                      refine R_dup_r rfl ?_
                      refine R_getf_i (j := 5) rfl ft_4_31 sh_1 rfl ?_
                      refine R_iconst 1 rfl rfl ?_
                      refine N_iadd (a := (h104.1 1 5).toInt) (b := 1) rfl rfl (by decide) (by omega) (fun x113 q114 => ?_)
                      refine K_putf (j := 5) (lo := (-2147483648)) (hi' := 2147483647) rfl ft_4_31 sh_1 rfl hI (by decide) rfl (i_rng _) fr (by decide) (fun h115 g116 hI fr => ?_)
                      have fl60 : FR [1] h47 h115 := by rw [g116]; exact FR_wI _ _ fl60 (by decide)
                      have fl6 : FR [1] h h115 := by rw [g116]; exact FR_wI _ _ fl6 (by decide)
                      have s117 : (h115.1 1 1).toInt = (h104.1 1 1).toInt := by rw [g116, wI_at (by decide)]
                      have s118 : (h115.1 1 2).toInt = (h104.1 1 2).toInt := by rw [g116, wI_at (by decide)]
                      have s119 : (h115.1 2 1).toInt = (h104.1 2 1).toInt := by rw [g116, wI_ne _ _ _ (by decide)]
                      have s120 : (h115.1 1 4).toInt = (h104.1 1 4).toInt := by rw [g116, wI_at (by decide)]
                      have s121 : (h115.1 1 3).toInt = (h104.1 1 3).toInt := by rw [g116, wI_at (by decide)]
                      have s122 : (h115.1 1 6).toInt = (h104.1 1 6).toInt := by rw [g116, wI_at (by decide)]
                      have s123 : (h115.1 1 5).toInt = x113.toInt := by rw [g116, wI_is]
                      refine R_goto 130 rfl rfl ?_
                      exact RUN_weak (psub_cons rfl (psub_nil _)) (ih61 h115 hI fr fl60 (by omega) (by omega) (by omega) (by omega) (by omega) (by omega) (by omega) (by omega) (by omega) (by omega) (by omega) (by omega) (by omega))
              exact lp58 _ h47 hI fr (FR.rf _ _) rfl rfl rfl rfl (by omega) (by omega) (by omega) (by omega) (by omega) (by omega) (by omega) (by omega) (Nat.lt_succ_self _)
            · refine R_aload_n (k := 0) rfl rfl rfl ?_
              refine R_getf_i (j := 3) rfl ft_4_25 sh_1 rfl ?_
              refine R_iconst 1 rfl rfl ?_
              refine N_icmp_eq (a := (h47.1 1 3).toInt) (b := 1) 130 rfl rfl rfl (by decide) (fun c124 => ?_) (fun c124 => ?_)
              · have lp126 : ∀ (n125 : Nat) (h127 : PH), INV h127 → FR [1] h h127 → FR [1] h47 h127 → (h127.1 1 1).toInt = (h47.1 1 1).toInt → (h127.1 1 2).toInt = (h47.1 1 2).toInt → (h127.1 1 4).toInt = (h47.1 1 4).toInt → (h127.1 1 3).toInt = (h47.1 1 3).toInt → 2 ≤ (h127.1 1 5).toInt ∧ (h127.1 1 5).toInt ≤ 495 → (h127.1 1 6).toInt ≤ 1000000 → (h127.1 1 5).toInt ≤ (h47.1 1 1).toInt + 494 → (h127.1 1 5).toInt ≤ (h47.1 2 1).toInt + (-1) → (h47.1 2 1).toInt ≤ (h127.1 1 5).toInt + 0 → (h127.1 1 5).toInt ≤ (h47.1 1 4).toInt + (-1) → (h47.1 1 4).toInt ≤ (h127.1 1 5).toInt + 0 → (h127.1 1 5).toInt ≤ (h47.1 1 3).toInt + 493 → (495 - (h127.1 1 5).toInt).toNat < n125 → RUN d_X4_nextToken 130 [(0, .inr (.inr (.inl 1)))] [] h127 (q_X4_nextToken h) := by
                  intro n125
                  induction n125 with
                  | zero => intro h127 m130 m131 m132 m133 m134 m135 m136 m137 m138 m139 m140 m141 m142 m143 m144 hz; exact absurd hz (Nat.not_lt_zero _)
                  | succ n125 ih129 =>
                    intro h127 hI fr fl128 m133 m134 m135 m136 m137 m138 m139 m140 m141 m142 m143 m144 hz
                    have s145 : (h127.1 2 1).toInt = (h47.1 2 1).toInt := by rw [(fl128 2 (by decide)).1]
                    have fl6 : FR [1] h h127 := fl6.trans fl128 (by decide)
                    refine R_aload_n (k := 0) rfl rfl rfl ?_
                    refine R_getf_i (j := 5) rfl ft_4_31 sh_1 rfl ?_
                    refine R_aload_n (k := 0) rfl rfl rfl ?_
                    refine R_getf_r (j := 0) rfl ft_4_12 sh_1 rfl ?_
                    refine R_getf_i (j := 1) rfl ft_4_135 sh_2 rfl ?_
                    refine N_icmp_ge (a := (h127.1 1 5).toInt) (b := (h127.1 2 1).toInt) 209 rfl rfl rfl rfl (fun c146 => ?_) (fun c146 => ?_)
                    · exact R_vret rfl rfl ⟨hI, fr, ⟨by omega, by omega, trivial⟩, rfl⟩
                    · refine R_aload_n (k := 0) rfl rfl rfl ?_
                      refine R_getf_r (j := 0) rfl ft_4_12 sh_1 rfl ?_
                      refine R_aload_n (k := 0) rfl rfl rfl ?_
                      refine R_getf_i (j := 5) rfl ft_4_31 sh_1 rfl ?_
                      refine R_callV (v := .inr (.inr (.inl 2))) (As := [.inl (h127.1 1 5)]) (rest := []) rfl mt_4_i127 pp_X7_byteAt (by decide) rfl rfl rfl (Nat.le_of_ble_eq_true rfl) (Nat.le_of_ble_eq_true rfl) ((k_X7_byteAt h127 hI (h127.1 1 5)).mono (fun r147 h148 p149 => ?_))
                      obtain ⟨rfl, x150, rfl, q151⟩ := p149
                      show RUN d_X4_nextToken 155 [(0, .inr (.inr (.inl 1)))] [.inl x150] h127 _
                      refine R_callS (As := [.inl x150]) (rest := []) rfl mt_4_i137 (by decide) pp_X4_kindOf (by decide) rfl rfl (Nat.le_of_ble_eq_true rfl) (Nat.le_of_ble_eq_true rfl) ((k_X4_kindOf h127 hI x150).mono (fun r152 h153 p154 => ?_))
                      obtain ⟨rfl, x155, rfl, q156⟩ := p154
                      show RUN d_X4_nextToken 158 [(0, .inr (.inr (.inl 1)))] [.inl x155] h127 _
                      refine R_aload_n (k := 0) rfl rfl rfl ?_
                      refine R_getf_i (j := 3) rfl ft_4_25 sh_1 rfl ?_
                      refine N_icmp_ne (a := x155.toInt) (b := (h127.1 1 3).toInt) 209 rfl rfl rfl rfl (fun c157 => ?_) (fun c157 => ?_)
                      · exact R_vret rfl rfl ⟨hI, fr, ⟨by omega, by omega, trivial⟩, rfl⟩
                      · refine R_aload_n (k := 0) rfl rfl rfl ?_
                        refine R_ldc_i (x := 1000000) rfl kt_4_140 ?_
                        refine R_aload_n (k := 0) rfl rfl rfl ?_
                        refine R_getf_i (j := 6) rfl ft_4_34 sh_1 rfl ?_
                        refine R_bipush 10 rfl rfl ?_
                        have b158 := i_rng (h127.1 1 6)
                        refine R_imul rfl ?_
                        refine N_any (fun x159 => ?_)
                        refine R_aload_n (k := 0) rfl rfl rfl ?_
                        refine R_getf_r (j := 0) rfl ft_4_12 sh_1 rfl ?_
                        refine R_aload_n (k := 0) rfl rfl rfl ?_
                        refine R_getf_i (j := 5) rfl ft_4_31 sh_1 rfl ?_
                        refine R_callV (v := .inr (.inr (.inl 2))) (As := [.inl (h127.1 1 5)]) (rest := [.inl x159, .inl 1000000, .inr (.inr (.inl 1))]) rfl mt_4_i127 pp_X7_byteAt (by decide) rfl rfl rfl (Nat.le_of_ble_eq_true rfl) (Nat.le_of_ble_eq_true rfl) ((k_X7_byteAt h127 hI (h127.1 1 5)).mono (fun r160 h161 p162 => ?_))
                        obtain ⟨rfl, x163, rfl, q164⟩ := p162
                        show RUN d_X4_nextToken 186 [(0, .inr (.inr (.inl 1)))] [.inl x163, .inl x159, .inl 1000000, .inr (.inr (.inl 1))] h127 _
                        have b165 := i_rng x159
                        have b166 := i_rng x163
                        refine R_iadd rfl ?_
                        refine N_any (fun x167 => ?_)
                        refine R_bipush 48 rfl rfl ?_
                        have b168 := i_rng x167
                        refine R_isub rfl ?_
                        refine N_any (fun x169 => ?_)
                        refine N_min (a := 1000000) (b := x169.toInt) rfl mt_4_i141 (by decide) rfl ⟨by decide, by decide, Nat.le_of_ble_eq_true rfl⟩ (fun x170 q171 => ?_)
                        refine K_putf (j := 6) (lo := (-2147483648)) (hi' := 2147483647) rfl ft_4_34 sh_1 rfl hI (by decide) rfl (i_rng _) fr (by decide) (fun h172 g173 hI fr => ?_)
                        have fl128 : FR [1] h47 h172 := by rw [g173]; exact FR_wI _ _ fl128 (by decide)
                        have fl6 : FR [1] h h172 := by rw [g173]; exact FR_wI _ _ fl6 (by decide)
                        have s174 : (h172.1 1 1).toInt = (h127.1 1 1).toInt := by rw [g173, wI_at (by decide)]
                        have s175 : (h172.1 1 2).toInt = (h127.1 1 2).toInt := by rw [g173, wI_at (by decide)]
                        have s176 : (h172.1 1 5).toInt = (h127.1 1 5).toInt := by rw [g173, wI_at (by decide)]
                        have s177 : (h172.1 2 1).toInt = (h127.1 2 1).toInt := by rw [g173, wI_ne _ _ _ (by decide)]
                        have s178 : (h172.1 1 4).toInt = (h127.1 1 4).toInt := by rw [g173, wI_at (by decide)]
                        have s179 : (h172.1 1 3).toInt = (h127.1 1 3).toInt := by rw [g173, wI_at (by decide)]
                        have s180 : (h172.1 1 6).toInt = x170.toInt := by rw [g173, wI_is]
                        refine R_aload_n (k := 0) rfl rfl rfl ?_
                        refine R_dup_r rfl ?_
                        refine R_getf_i (j := 5) rfl ft_4_31 sh_1 rfl ?_
                        refine R_iconst 1 rfl rfl ?_
                        refine N_iadd (a := (h172.1 1 5).toInt) (b := 1) rfl rfl (by decide) (by omega) (fun x181 q182 => ?_)
                        refine K_putf (j := 5) (lo := (-2147483648)) (hi' := 2147483647) rfl ft_4_31 sh_1 rfl hI (by decide) rfl (i_rng _) fr (by decide) (fun h183 g184 hI fr => ?_)
                        have fl128 : FR [1] h47 h183 := by rw [g184]; exact FR_wI _ _ fl128 (by decide)
                        have fl6 : FR [1] h h183 := by rw [g184]; exact FR_wI _ _ fl6 (by decide)
                        have s185 : (h183.1 1 1).toInt = (h172.1 1 1).toInt := by rw [g184, wI_at (by decide)]
                        have s186 : (h183.1 1 2).toInt = (h172.1 1 2).toInt := by rw [g184, wI_at (by decide)]
                        have s187 : (h183.1 2 1).toInt = (h172.1 2 1).toInt := by rw [g184, wI_ne _ _ _ (by decide)]
                        have s188 : (h183.1 1 4).toInt = (h172.1 1 4).toInt := by rw [g184, wI_at (by decide)]
                        have s189 : (h183.1 1 3).toInt = (h172.1 1 3).toInt := by rw [g184, wI_at (by decide)]
                        have s190 : (h183.1 1 6).toInt = (h172.1 1 6).toInt := by rw [g184, wI_at (by decide)]
                        have s191 : (h183.1 1 5).toInt = x181.toInt := by rw [g184, wI_is]
                        refine R_goto 130 rfl rfl ?_
                        exact RUN_weak (psub_cons rfl (psub_nil _)) (ih129 h183 hI fr fl128 (by omega) (by omega) (by omega) (by omega) (by omega) (by omega) (by omega) (by omega) (by omega) (by omega) (by omega) (by omega) (by omega))
                exact lp126 _ h47 hI fr (FR.rf _ _) rfl rfl rfl rfl (by omega) (by omega) (by omega) (by omega) (by omega) (by omega) (by omega) (by omega) (Nat.lt_succ_self _)
              · refine R_aload_n (k := 0) rfl rfl rfl ?_
                refine R_dup_r rfl ?_
                refine R_getf_i (j := 5) rfl ft_4_31 sh_1 rfl ?_
                refine R_iconst 1 rfl rfl ?_
                refine N_iadd (a := (h47.1 1 5).toInt) (b := 1) rfl rfl (by decide) (by omega) (fun x192 q193 => ?_)
                refine K_putf (j := 5) (lo := (-2147483648)) (hi' := 2147483647) rfl ft_4_31 sh_1 rfl hI (by decide) rfl (i_rng _) fr (by decide) (fun h194 g195 hI fr => ?_)
                have fl6 : FR [1] h h194 := by rw [g195]; exact FR_wI _ _ fl6 (by decide)
                have s196 : (h194.1 1 1).toInt = (h47.1 1 1).toInt := by rw [g195, wI_at (by decide)]
                have s197 : (h194.1 1 2).toInt = (h47.1 1 2).toInt := by rw [g195, wI_at (by decide)]
                have s198 : (h194.1 2 1).toInt = (h47.1 2 1).toInt := by rw [g195, wI_ne _ _ _ (by decide)]
                have s199 : (h194.1 1 4).toInt = (h47.1 1 4).toInt := by rw [g195, wI_at (by decide)]
                have s200 : (h194.1 1 3).toInt = (h47.1 1 3).toInt := by rw [g195, wI_at (by decide)]
                have s201 : (h194.1 1 6).toInt = (h47.1 1 6).toInt := by rw [g195, wI_at (by decide)]
                have s202 : (h194.1 1 5).toInt = x192.toInt := by rw [g195, wI_is]
                exact R_vret rfl rfl ⟨hI, fr, ⟨by omega, by omega, trivial⟩, rfl⟩
          · refine R_aload_n (k := 0) rfl rfl rfl ?_
            refine R_iconst 5 rfl rfl ?_
            refine K_putf (j := 3) (lo := (-2147483648)) (hi' := 2147483647) rfl ft_4_25 sh_1 rfl hI (by decide) rfl (by decide) fr (by decide) (fun h203 g204 hI fr => ?_)
            have fl6 : FR [1] h h203 := by rw [g204]; exact FR_wI _ _ fl6 (by decide)
            have s205 : (h203.1 1 1).toInt = (h18.1 1 1).toInt := by rw [g204, wI_at (by decide)]
            have s206 : (h203.1 1 2).toInt = (h18.1 1 2).toInt := by rw [g204, wI_at (by decide)]
            have s207 : (h203.1 1 5).toInt = (h18.1 1 5).toInt := by rw [g204, wI_at (by decide)]
            have s208 : (h203.1 1 6).toInt = (h18.1 1 6).toInt := by rw [g204, wI_at (by decide)]
            have s209 : (h203.1 2 1).toInt = (h18.1 2 1).toInt := by rw [g204, wI_ne _ _ _ (by decide)]
            have s210 : (h203.1 1 4).toInt = (h18.1 1 4).toInt := by rw [g204, wI_at (by decide)]
            have s211 : (h203.1 1 3).toInt = 5 := by rw [g204, wI_is]; rfl
            exact R_vret rfl rfl ⟨hI, fr, ⟨by omega, by omega, trivial⟩, rfl⟩
        · refine R_aload_n (k := 0) rfl rfl rfl ?_
          refine R_getf_r (j := 0) rfl ft_4_12 sh_1 rfl ?_
          refine R_aload_n (k := 0) rfl rfl rfl ?_
          refine R_getf_i (j := 5) rfl ft_4_31 sh_1 rfl ?_
          refine R_callV (v := .inr (.inr (.inl 2))) (As := [.inl (h5.1 1 5)]) (rest := []) rfl mt_4_i127 pp_X7_byteAt (by decide) rfl rfl rfl (Nat.le_of_ble_eq_true rfl) (Nat.le_of_ble_eq_true rfl) ((k_X7_byteAt h5 hI (h5.1 1 5)).mono (fun r212 h213 p214 => ?_))
          obtain ⟨rfl, x215, rfl, q216⟩ := p214
          show RUN d_X4_nextToken 33 [(0, .inr (.inr (.inl 1)))] [.inl x215] h5 _
          refine R_callS (As := [.inl x215]) (rest := []) rfl mt_4_i137 (by decide) pp_X4_kindOf (by decide) rfl rfl (Nat.le_of_ble_eq_true rfl) (Nat.le_of_ble_eq_true rfl) ((k_X4_kindOf h5 hI x215).mono (fun r217 h218 p219 => ?_))
          obtain ⟨rfl, x220, rfl, q221⟩ := p219
          show RUN d_X4_nextToken 36 [(0, .inr (.inr (.inl 1)))] [.inl x220] h5 _
          refine R_iconst 4 rfl rfl ?_
          refine N_icmp_ne (a := x220.toInt) (b := 4) 53 rfl rfl rfl (by decide) (fun c222 => ?_) (fun c222 => ?_)
          · refine R_aload_n (k := 0) rfl rfl rfl ?_
            refine R_aload_n (k := 0) rfl rfl rfl ?_
            refine R_getf_i (j := 5) rfl ft_4_31 sh_1 rfl ?_
            refine K_putf (j := 4) (lo := (-2147483648)) (hi' := 2147483647) rfl ft_4_28 sh_1 rfl hI (by decide) rfl (i_rng _) fr (by decide) (fun h223 g224 hI fr => ?_)
            have fl6 : FR [1] h h223 := by rw [g224]; exact FR_wI _ _ fl6 (by decide)
            have s225 : (h223.1 1 1).toInt = (h5.1 1 1).toInt := by rw [g224, wI_at (by decide)]
            have s226 : (h223.1 1 2).toInt = (h5.1 1 2).toInt := by rw [g224, wI_at (by decide)]
            have s227 : (h223.1 1 5).toInt = (h5.1 1 5).toInt := by rw [g224, wI_at (by decide)]
            have s228 : (h223.1 1 3).toInt = (h5.1 1 3).toInt := by rw [g224, wI_at (by decide)]
            have s229 : (h223.1 1 6).toInt = (h5.1 1 6).toInt := by rw [g224, wI_at (by decide)]
            have s230 : (h223.1 2 1).toInt = (h5.1 2 1).toInt := by rw [g224, wI_ne _ _ _ (by decide)]
            have s231 : (h223.1 1 4).toInt = (h5.1 1 5).toInt := by rw [g224, wI_is]
            refine R_aload_n (k := 0) rfl rfl rfl ?_
            refine R_getf_i (j := 5) rfl ft_4_31 sh_1 rfl ?_
            refine R_aload_n (k := 0) rfl rfl rfl ?_
            refine R_getf_r (j := 0) rfl ft_4_12 sh_1 rfl ?_
            refine R_getf_i (j := 1) rfl ft_4_135 sh_2 rfl ?_
            refine N_icmp_lt (a := (h223.1 1 5).toInt) (b := (h223.1 2 1).toInt) 81 rfl rfl rfl rfl (fun c232 => ?_) (fun c232 => ?_)
            · refine R_aload_n (k := 0) rfl rfl rfl ?_
              refine R_aload_n (k := 0) rfl rfl rfl ?_
              refine R_getf_r (j := 0) rfl ft_4_12 sh_1 rfl ?_
              refine R_aload_n (k := 0) rfl rfl rfl ?_
              refine R_getf_i (j := 5) rfl ft_4_31 sh_1 rfl ?_
              refine R_callV (v := .inr (.inr (.inl 2))) (As := [.inl (h223.1 1 5)]) (rest := [.inr (.inr (.inl 1))]) rfl mt_4_i127 pp_X7_byteAt (by decide) rfl rfl rfl (Nat.le_of_ble_eq_true rfl) (Nat.le_of_ble_eq_true rfl) ((k_X7_byteAt h223 hI (h223.1 1 5)).mono (fun r233 h234 p235 => ?_))
              obtain ⟨rfl, x236, rfl, q237⟩ := p235
              show RUN d_X4_nextToken 93 [(0, .inr (.inr (.inl 1)))] [.inl x236, .inr (.inr (.inl 1))] h223 _
              refine R_callS (As := [.inl x236]) (rest := [.inr (.inr (.inl 1))]) rfl mt_4_i137 (by decide) pp_X4_kindOf (by decide) rfl rfl (Nat.le_of_ble_eq_true rfl) (Nat.le_of_ble_eq_true rfl) ((k_X4_kindOf h223 hI x236).mono (fun r238 h239 p240 => ?_))
              obtain ⟨rfl, x241, rfl, q242⟩ := p240
              show RUN d_X4_nextToken 96 [(0, .inr (.inr (.inl 1)))] [.inl x241, .inr (.inr (.inl 1))] h223 _
              refine K_putf (j := 3) (lo := (-2147483648)) (hi' := 2147483647) rfl ft_4_25 sh_1 rfl hI (by decide) rfl (i_rng _) fr (by decide) (fun h243 g244 hI fr => ?_)
              have fl6 : FR [1] h h243 := by rw [g244]; exact FR_wI _ _ fl6 (by decide)
              have s245 : (h243.1 1 1).toInt = (h223.1 1 1).toInt := by rw [g244, wI_at (by decide)]
              have s246 : (h243.1 1 2).toInt = (h223.1 1 2).toInt := by rw [g244, wI_at (by decide)]
              have s247 : (h243.1 1 5).toInt = (h223.1 1 5).toInt := by rw [g244, wI_at (by decide)]
              have s248 : (h243.1 1 6).toInt = (h223.1 1 6).toInt := by rw [g244, wI_at (by decide)]
              have s249 : (h243.1 2 1).toInt = (h223.1 2 1).toInt := by rw [g244, wI_ne _ _ _ (by decide)]
              have s250 : (h243.1 1 4).toInt = (h223.1 1 4).toInt := by rw [g244, wI_at (by decide)]
              have s251 : (h243.1 1 3).toInt = x241.toInt := by rw [g244, wI_is]
              refine R_aload_n (k := 0) rfl rfl rfl ?_
              refine R_iconst 0 rfl rfl ?_
              refine K_putf (j := 6) (lo := (-2147483648)) (hi' := 2147483647) rfl ft_4_34 sh_1 rfl hI (by decide) rfl (by decide) fr (by decide) (fun h252 g253 hI fr => ?_)
              have fl6 : FR [1] h h252 := by rw [g253]; exact FR_wI _ _ fl6 (by decide)
              have s254 : (h252.1 1 1).toInt = (h243.1 1 1).toInt := by rw [g253, wI_at (by decide)]
              have s255 : (h252.1 1 2).toInt = (h243.1 1 2).toInt := by rw [g253, wI_at (by decide)]
              have s256 : (h252.1 1 5).toInt = (h243.1 1 5).toInt := by rw [g253, wI_at (by decide)]
              have s257 : (h252.1 2 1).toInt = (h243.1 2 1).toInt := by rw [g253, wI_ne _ _ _ (by decide)]
              have s258 : (h252.1 1 4).toInt = (h243.1 1 4).toInt := by rw [g253, wI_at (by decide)]
              have s259 : (h252.1 1 3).toInt = (h243.1 1 3).toInt := by rw [g253, wI_at (by decide)]
              have s260 : (h252.1 1 6).toInt = 0 := by rw [g253, wI_is]; rfl
              refine R_aload_n (k := 0) rfl rfl rfl ?_
              refine R_getf_i (j := 3) rfl ft_4_25 sh_1 rfl ?_
              refine N_if_eq (a := (h252.1 1 3).toInt) 130 rfl rfl rfl (fun c261 => ?_) (fun c261 => ?_)
              · have lp263 : ∀ (n262 : Nat) (h264 : PH), INV h264 → FR [1] h h264 → FR [1] h252 h264 → (h264.1 1 1).toInt = (h252.1 1 1).toInt → (h264.1 1 2).toInt = (h252.1 1 2).toInt → (h264.1 1 4).toInt = (h252.1 1 4).toInt → (h264.1 1 3).toInt = (h252.1 1 3).toInt → (h264.1 1 5).toInt ≤ 500 → (h264.1 1 6).toInt ≤ 1000000 → (h252.1 1 4).toInt ≤ (h264.1 1 5).toInt + 0 → (500 - (h264.1 1 5).toInt).toNat < n262 → RUN d_X4_nextToken 130 [(0, .inr (.inr (.inl 1)))] [] h264 (q_X4_nextToken h) := by
                  intro n262
                  induction n262 with
                  | zero => intro h264 m267 m268 m269 m270 m271 m272 m273 m274 m275 m276 hz; exact absurd hz (Nat.not_lt_zero _)
                  | succ n262 ih266 =>
                    intro h264 hI fr fl265 m270 m271 m272 m273 m274 m275 m276 hz
                    have s277 : (h264.1 2 1).toInt = (h252.1 2 1).toInt := by rw [(fl265 2 (by decide)).1]
                    have fl6 : FR [1] h h264 := fl6.trans fl265 (by decide)
                    refine R_aload_n (k := 0) rfl rfl rfl ?_
                    refine R_getf_i (j := 5) rfl ft_4_31 sh_1 rfl ?_
                    refine R_aload_n (k := 0) rfl rfl rfl ?_
                    refine R_getf_r (j := 0) rfl ft_4_12 sh_1 rfl ?_
                    refine R_getf_i (j := 1) rfl ft_4_135 sh_2 rfl ?_
                    refine N_icmp_ge (a := (h264.1 1 5).toInt) (b := (h264.1 2 1).toInt) 209 rfl rfl rfl rfl (fun c278 => ?_) (fun c278 => ?_)
                    · exact R_vret rfl rfl ⟨hI, fr, ⟨by omega, by omega, trivial⟩, rfl⟩
                    · refine R_aload_n (k := 0) rfl rfl rfl ?_
                      refine R_getf_r (j := 0) rfl ft_4_12 sh_1 rfl ?_
                      refine R_aload_n (k := 0) rfl rfl rfl ?_
                      refine R_getf_i (j := 5) rfl ft_4_31 sh_1 rfl ?_
                      refine R_callV (v := .inr (.inr (.inl 2))) (As := [.inl (h264.1 1 5)]) (rest := []) rfl mt_4_i127 pp_X7_byteAt (by decide) rfl rfl rfl (Nat.le_of_ble_eq_true rfl) (Nat.le_of_ble_eq_true rfl) ((k_X7_byteAt h264 hI (h264.1 1 5)).mono (fun r279 h280 p281 => ?_))
                      obtain ⟨rfl, x282, rfl, q283⟩ := p281
                      show RUN d_X4_nextToken 155 [(0, .inr (.inr (.inl 1)))] [.inl x282] h264 _
                      refine R_callS (As := [.inl x282]) (rest := []) rfl mt_4_i137 (by decide) pp_X4_kindOf (by decide) rfl rfl (Nat.le_of_ble_eq_true rfl) (Nat.le_of_ble_eq_true rfl) ((k_X4_kindOf h264 hI x282).mono (fun r284 h285 p286 => ?_))
                      obtain ⟨rfl, x287, rfl, q288⟩ := p286
                      show RUN d_X4_nextToken 158 [(0, .inr (.inr (.inl 1)))] [.inl x287] h264 _
                      refine R_aload_n (k := 0) rfl rfl rfl ?_
                      refine R_getf_i (j := 3) rfl ft_4_25 sh_1 rfl ?_
                      refine N_icmp_ne (a := x287.toInt) (b := (h264.1 1 3).toInt) 209 rfl rfl rfl rfl (fun c289 => ?_) (fun c289 => ?_)
                      · exact R_vret rfl rfl ⟨hI, fr, ⟨by omega, by omega, trivial⟩, rfl⟩
                      · refine R_aload_n (k := 0) rfl rfl rfl ?_
                        refine R_ldc_i (x := 1000000) rfl kt_4_140 ?_
                        refine R_aload_n (k := 0) rfl rfl rfl ?_
                        refine R_getf_i (j := 6) rfl ft_4_34 sh_1 rfl ?_
                        refine R_bipush 10 rfl rfl ?_
                        have b290 := i_rng (h264.1 1 6)
                        refine R_imul rfl ?_
                        refine N_any (fun x291 => ?_)
                        refine R_aload_n (k := 0) rfl rfl rfl ?_
                        refine R_getf_r (j := 0) rfl ft_4_12 sh_1 rfl ?_
                        refine R_aload_n (k := 0) rfl rfl rfl ?_
                        refine R_getf_i (j := 5) rfl ft_4_31 sh_1 rfl ?_
                        refine R_callV (v := .inr (.inr (.inl 2))) (As := [.inl (h264.1 1 5)]) (rest := [.inl x291, .inl 1000000, .inr (.inr (.inl 1))]) rfl mt_4_i127 pp_X7_byteAt (by decide) rfl rfl rfl (Nat.le_of_ble_eq_true rfl) (Nat.le_of_ble_eq_true rfl) ((k_X7_byteAt h264 hI (h264.1 1 5)).mono (fun r292 h293 p294 => ?_))
                        obtain ⟨rfl, x295, rfl, q296⟩ := p294
                        show RUN d_X4_nextToken 186 [(0, .inr (.inr (.inl 1)))] [.inl x295, .inl x291, .inl 1000000, .inr (.inr (.inl 1))] h264 _
                        have b297 := i_rng x291
                        have b298 := i_rng x295
                        refine R_iadd rfl ?_
                        refine N_any (fun x299 => ?_)
                        refine R_bipush 48 rfl rfl ?_
                        have b300 := i_rng x299
                        refine R_isub rfl ?_
                        refine N_any (fun x301 => ?_)
                        refine N_min (a := 1000000) (b := x301.toInt) rfl mt_4_i141 (by decide) rfl ⟨by decide, by decide, Nat.le_of_ble_eq_true rfl⟩ (fun x302 q303 => ?_)
                        refine K_putf (j := 6) (lo := (-2147483648)) (hi' := 2147483647) rfl ft_4_34 sh_1 rfl hI (by decide) rfl (i_rng _) fr (by decide) (fun h304 g305 hI fr => ?_)
                        have fl265 : FR [1] h252 h304 := by rw [g305]; exact FR_wI _ _ fl265 (by decide)
                        have fl6 : FR [1] h h304 := by rw [g305]; exact FR_wI _ _ fl6 (by decide)
                        have s306 : (h304.1 1 1).toInt = (h264.1 1 1).toInt := by rw [g305, wI_at (by decide)]
                        have s307 : (h304.1 1 2).toInt = (h264.1 1 2).toInt := by rw [g305, wI_at (by decide)]
                        have s308 : (h304.1 1 5).toInt = (h264.1 1 5).toInt := by rw [g305, wI_at (by decide)]
                        have s309 : (h304.1 2 1).toInt = (h264.1 2 1).toInt := by rw [g305, wI_ne _ _ _ (by decide)]
                        have s310 : (h304.1 1 4).toInt = (h264.1 1 4).toInt := by rw [g305, wI_at (by decide)]
                        have s311 : (h304.1 1 3).toInt = (h264.1 1 3).toInt := by rw [g305, wI_at (by decide)]
                        have s312 : (h304.1 1 6).toInt = x302.toInt := by rw [g305, wI_is]
                        refine R_aload_n (k := 0) rfl rfl rfl ?_
                        refine R_dup_r rfl ?_
                        refine R_getf_i (j := 5) rfl ft_4_31 sh_1 rfl ?_
                        refine R_iconst 1 rfl rfl ?_
                        have b313 := i_rng (h304.1 1 5)
                        refine N_iadd (a := (h304.1 1 5).toInt) (b := 1) rfl rfl (by decide) (by omega) (fun x314 q315 => ?_)
                        refine K_putf (j := 5) (lo := (-2147483648)) (hi' := 2147483647) rfl ft_4_31 sh_1 rfl hI (by decide) rfl (i_rng _) fr (by decide) (fun h316 g317 hI fr => ?_)
                        have fl265 : FR [1] h252 h316 := by rw [g317]; exact FR_wI _ _ fl265 (by decide)
                        have fl6 : FR [1] h h316 := by rw [g317]; exact FR_wI _ _ fl6 (by decide)
                        have s318 : (h316.1 1 1).toInt = (h304.1 1 1).toInt := by rw [g317, wI_at (by decide)]
                        have s319 : (h316.1 1 2).toInt = (h304.1 1 2).toInt := by rw [g317, wI_at (by decide)]
                        have s320 : (h316.1 2 1).toInt = (h304.1 2 1).toInt := by rw [g317, wI_ne _ _ _ (by decide)]
                        have s321 : (h316.1 1 4).toInt = (h304.1 1 4).toInt := by rw [g317, wI_at (by decide)]
                        have s322 : (h316.1 1 3).toInt = (h304.1 1 3).toInt := by rw [g317, wI_at (by decide)]
                        have s323 : (h316.1 1 6).toInt = (h304.1 1 6).toInt := by rw [g317, wI_at (by decide)]
                        have s324 : (h316.1 1 5).toInt = x314.toInt := by rw [g317, wI_is]
                        refine R_goto 130 rfl rfl ?_
                        exact RUN_weak (psub_cons rfl (psub_nil _)) (ih266 h316 hI fr fl265 (by omega) (by omega) (by omega) (by omega) (by omega) (by omega) (by omega) (by omega))
                exact lp263 _ h252 hI fr (FR.rf _ _) rfl rfl rfl rfl (by omega) (by omega) (by omega) (Nat.lt_succ_self _)
              · refine R_aload_n (k := 0) rfl rfl rfl ?_
                refine R_getf_i (j := 3) rfl ft_4_25 sh_1 rfl ?_
                refine R_iconst 1 rfl rfl ?_
                refine N_icmp_eq (a := (h252.1 1 3).toInt) (b := 1) 130 rfl rfl rfl (by decide) (fun c325 => ?_) (fun c325 => ?_)
                · have lp327 : ∀ (n326 : Nat) (h328 : PH), INV h328 → FR [1] h h328 → FR [1] h252 h328 → (h328.1 1 1).toInt = (h252.1 1 1).toInt → (h328.1 1 2).toInt = (h252.1 1 2).toInt → (h328.1 1 4).toInt = (h252.1 1 4).toInt → (h328.1 1 3).toInt = (h252.1 1 3).toInt → (h328.1 1 5).toInt ≤ 500 → (h328.1 1 6).toInt ≤ 1000000 → (h252.1 1 4).toInt ≤ (h328.1 1 5).toInt + 0 → (500 - (h328.1 1 5).toInt).toNat < n326 → RUN d_X4_nextToken 130 [(0, .inr (.inr (.inl 1)))] [] h328 (q_X4_nextToken h) := by
                    intro n326
                    induction n326 with
                    | zero => intro h328 m331 m332 m333 m334 m335 m336 m337 m338 m339 m340 hz; exact absurd hz (Nat.not_lt_zero _)
                    | succ n326 ih330 =>
                      intro h328 hI fr fl329 m334 m335 m336 m337 m338 m339 m340 hz
                      have s341 : (h328.1 2 1).toInt = (h252.1 2 1).toInt := by rw [(fl329 2 (by decide)).1]
                      have fl6 : FR [1] h h328 := fl6.trans fl329 (by decide)
                      refine R_aload_n (k := 0) rfl rfl rfl ?_
                      refine R_getf_i (j := 5) rfl ft_4_31 sh_1 rfl ?_
                      refine R_aload_n (k := 0) rfl rfl rfl ?_
                      refine R_getf_r (j := 0) rfl ft_4_12 sh_1 rfl ?_
                      refine R_getf_i (j := 1) rfl ft_4_135 sh_2 rfl ?_
                      refine N_icmp_ge (a := (h328.1 1 5).toInt) (b := (h328.1 2 1).toInt) 209 rfl rfl rfl rfl (fun c342 => ?_) (fun c342 => ?_)
                      · exact R_vret rfl rfl ⟨hI, fr, ⟨by omega, by omega, trivial⟩, rfl⟩
                      · refine R_aload_n (k := 0) rfl rfl rfl ?_
                        refine R_getf_r (j := 0) rfl ft_4_12 sh_1 rfl ?_
                        refine R_aload_n (k := 0) rfl rfl rfl ?_
                        refine R_getf_i (j := 5) rfl ft_4_31 sh_1 rfl ?_
                        refine R_callV (v := .inr (.inr (.inl 2))) (As := [.inl (h328.1 1 5)]) (rest := []) rfl mt_4_i127 pp_X7_byteAt (by decide) rfl rfl rfl (Nat.le_of_ble_eq_true rfl) (Nat.le_of_ble_eq_true rfl) ((k_X7_byteAt h328 hI (h328.1 1 5)).mono (fun r343 h344 p345 => ?_))
                        obtain ⟨rfl, x346, rfl, q347⟩ := p345
                        show RUN d_X4_nextToken 155 [(0, .inr (.inr (.inl 1)))] [.inl x346] h328 _
                        refine R_callS (As := [.inl x346]) (rest := []) rfl mt_4_i137 (by decide) pp_X4_kindOf (by decide) rfl rfl (Nat.le_of_ble_eq_true rfl) (Nat.le_of_ble_eq_true rfl) ((k_X4_kindOf h328 hI x346).mono (fun r348 h349 p350 => ?_))
                        obtain ⟨rfl, x351, rfl, q352⟩ := p350
                        show RUN d_X4_nextToken 158 [(0, .inr (.inr (.inl 1)))] [.inl x351] h328 _
                        refine R_aload_n (k := 0) rfl rfl rfl ?_
                        refine R_getf_i (j := 3) rfl ft_4_25 sh_1 rfl ?_
                        refine N_icmp_ne (a := x351.toInt) (b := (h328.1 1 3).toInt) 209 rfl rfl rfl rfl (fun c353 => ?_) (fun c353 => ?_)
                        · exact R_vret rfl rfl ⟨hI, fr, ⟨by omega, by omega, trivial⟩, rfl⟩
                        · refine R_aload_n (k := 0) rfl rfl rfl ?_
                          refine R_ldc_i (x := 1000000) rfl kt_4_140 ?_
                          refine R_aload_n (k := 0) rfl rfl rfl ?_
                          refine R_getf_i (j := 6) rfl ft_4_34 sh_1 rfl ?_
                          refine R_bipush 10 rfl rfl ?_
                          have b354 := i_rng (h328.1 1 6)
                          refine R_imul rfl ?_
                          refine N_any (fun x355 => ?_)
                          refine R_aload_n (k := 0) rfl rfl rfl ?_
                          refine R_getf_r (j := 0) rfl ft_4_12 sh_1 rfl ?_
                          refine R_aload_n (k := 0) rfl rfl rfl ?_
                          refine R_getf_i (j := 5) rfl ft_4_31 sh_1 rfl ?_
                          refine R_callV (v := .inr (.inr (.inl 2))) (As := [.inl (h328.1 1 5)]) (rest := [.inl x355, .inl 1000000, .inr (.inr (.inl 1))]) rfl mt_4_i127 pp_X7_byteAt (by decide) rfl rfl rfl (Nat.le_of_ble_eq_true rfl) (Nat.le_of_ble_eq_true rfl) ((k_X7_byteAt h328 hI (h328.1 1 5)).mono (fun r356 h357 p358 => ?_))
                          obtain ⟨rfl, x359, rfl, q360⟩ := p358
                          show RUN d_X4_nextToken 186 [(0, .inr (.inr (.inl 1)))] [.inl x359, .inl x355, .inl 1000000, .inr (.inr (.inl 1))] h328 _
                          have b361 := i_rng x355
                          have b362 := i_rng x359
                          refine R_iadd rfl ?_
                          refine N_any (fun x363 => ?_)
                          refine R_bipush 48 rfl rfl ?_
                          have b364 := i_rng x363
                          refine R_isub rfl ?_
                          refine N_any (fun x365 => ?_)
                          refine N_min (a := 1000000) (b := x365.toInt) rfl mt_4_i141 (by decide) rfl ⟨by decide, by decide, Nat.le_of_ble_eq_true rfl⟩ (fun x366 q367 => ?_)
                          refine K_putf (j := 6) (lo := (-2147483648)) (hi' := 2147483647) rfl ft_4_34 sh_1 rfl hI (by decide) rfl (i_rng _) fr (by decide) (fun h368 g369 hI fr => ?_)
                          have fl329 : FR [1] h252 h368 := by rw [g369]; exact FR_wI _ _ fl329 (by decide)
                          have fl6 : FR [1] h h368 := by rw [g369]; exact FR_wI _ _ fl6 (by decide)
                          have s370 : (h368.1 1 1).toInt = (h328.1 1 1).toInt := by rw [g369, wI_at (by decide)]
                          have s371 : (h368.1 1 2).toInt = (h328.1 1 2).toInt := by rw [g369, wI_at (by decide)]
                          have s372 : (h368.1 1 5).toInt = (h328.1 1 5).toInt := by rw [g369, wI_at (by decide)]
                          have s373 : (h368.1 2 1).toInt = (h328.1 2 1).toInt := by rw [g369, wI_ne _ _ _ (by decide)]
                          have s374 : (h368.1 1 4).toInt = (h328.1 1 4).toInt := by rw [g369, wI_at (by decide)]
                          have s375 : (h368.1 1 3).toInt = (h328.1 1 3).toInt := by rw [g369, wI_at (by decide)]
                          have s376 : (h368.1 1 6).toInt = x366.toInt := by rw [g369, wI_is]
                          refine R_aload_n (k := 0) rfl rfl rfl ?_
                          refine R_dup_r rfl ?_
                          refine R_getf_i (j := 5) rfl ft_4_31 sh_1 rfl ?_
                          refine R_iconst 1 rfl rfl ?_
                          have b377 := i_rng (h368.1 1 5)
                          refine N_iadd (a := (h368.1 1 5).toInt) (b := 1) rfl rfl (by decide) (by omega) (fun x378 q379 => ?_)
                          refine K_putf (j := 5) (lo := (-2147483648)) (hi' := 2147483647) rfl ft_4_31 sh_1 rfl hI (by decide) rfl (i_rng _) fr (by decide) (fun h380 g381 hI fr => ?_)
                          have fl329 : FR [1] h252 h380 := by rw [g381]; exact FR_wI _ _ fl329 (by decide)
                          have fl6 : FR [1] h h380 := by rw [g381]; exact FR_wI _ _ fl6 (by decide)
                          have s382 : (h380.1 1 1).toInt = (h368.1 1 1).toInt := by rw [g381, wI_at (by decide)]
                          have s383 : (h380.1 1 2).toInt = (h368.1 1 2).toInt := by rw [g381, wI_at (by decide)]
                          have s384 : (h380.1 2 1).toInt = (h368.1 2 1).toInt := by rw [g381, wI_ne _ _ _ (by decide)]
                          have s385 : (h380.1 1 4).toInt = (h368.1 1 4).toInt := by rw [g381, wI_at (by decide)]
                          have s386 : (h380.1 1 3).toInt = (h368.1 1 3).toInt := by rw [g381, wI_at (by decide)]
                          have s387 : (h380.1 1 6).toInt = (h368.1 1 6).toInt := by rw [g381, wI_at (by decide)]
                          have s388 : (h380.1 1 5).toInt = x378.toInt := by rw [g381, wI_is]
                          refine R_goto 130 rfl rfl ?_
                          exact RUN_weak (psub_cons rfl (psub_nil _)) (ih330 h380 hI fr fl329 (by omega) (by omega) (by omega) (by omega) (by omega) (by omega) (by omega) (by omega))
                  exact lp327 _ h252 hI fr (FR.rf _ _) rfl rfl rfl rfl (by omega) (by omega) (by omega) (Nat.lt_succ_self _)
                · refine R_aload_n (k := 0) rfl rfl rfl ?_
                  refine R_dup_r rfl ?_
                  refine R_getf_i (j := 5) rfl ft_4_31 sh_1 rfl ?_
                  refine R_iconst 1 rfl rfl ?_
                  have b389 := i_rng (h252.1 1 5)
                  refine N_iadd (a := (h252.1 1 5).toInt) (b := 1) rfl rfl (by decide) (by omega) (fun x390 q391 => ?_)
                  refine K_putf (j := 5) (lo := (-2147483648)) (hi' := 2147483647) rfl ft_4_31 sh_1 rfl hI (by decide) rfl (i_rng _) fr (by decide) (fun h392 g393 hI fr => ?_)
                  have fl6 : FR [1] h h392 := by rw [g393]; exact FR_wI _ _ fl6 (by decide)
                  have s394 : (h392.1 1 1).toInt = (h252.1 1 1).toInt := by rw [g393, wI_at (by decide)]
                  have s395 : (h392.1 1 2).toInt = (h252.1 1 2).toInt := by rw [g393, wI_at (by decide)]
                  have s396 : (h392.1 2 1).toInt = (h252.1 2 1).toInt := by rw [g393, wI_ne _ _ _ (by decide)]
                  have s397 : (h392.1 1 4).toInt = (h252.1 1 4).toInt := by rw [g393, wI_at (by decide)]
                  have s398 : (h392.1 1 3).toInt = (h252.1 1 3).toInt := by rw [g393, wI_at (by decide)]
                  have s399 : (h392.1 1 6).toInt = (h252.1 1 6).toInt := by rw [g393, wI_at (by decide)]
                  have s400 : (h392.1 1 5).toInt = x390.toInt := by rw [g393, wI_is]
                  exact R_vret rfl rfl ⟨hI, fr, ⟨by omega, by omega, trivial⟩, rfl⟩
            · refine R_aload_n (k := 0) rfl rfl rfl ?_
              refine R_iconst 5 rfl rfl ?_
              refine K_putf (j := 3) (lo := (-2147483648)) (hi' := 2147483647) rfl ft_4_25 sh_1 rfl hI (by decide) rfl (by decide) fr (by decide) (fun h401 g402 hI fr => ?_)
              have fl6 : FR [1] h h401 := by rw [g402]; exact FR_wI _ _ fl6 (by decide)
              have s403 : (h401.1 1 1).toInt = (h223.1 1 1).toInt := by rw [g402, wI_at (by decide)]
              have s404 : (h401.1 1 2).toInt = (h223.1 1 2).toInt := by rw [g402, wI_at (by decide)]
              have s405 : (h401.1 1 5).toInt = (h223.1 1 5).toInt := by rw [g402, wI_at (by decide)]
              have s406 : (h401.1 1 6).toInt = (h223.1 1 6).toInt := by rw [g402, wI_at (by decide)]
              have s407 : (h401.1 2 1).toInt = (h223.1 2 1).toInt := by rw [g402, wI_ne _ _ _ (by decide)]
              have s408 : (h401.1 1 4).toInt = (h223.1 1 4).toInt := by rw [g402, wI_at (by decide)]
              have s409 : (h401.1 1 3).toInt = 5 := by rw [g402, wI_is]; rfl
              exact R_vret rfl rfl ⟨hI, fr, ⟨by omega, by omega, trivial⟩, rfl⟩
          · refine R_aload_n (k := 0) rfl rfl rfl ?_
            refine R_dup_r rfl ?_
            refine R_getf_i (j := 5) rfl ft_4_31 sh_1 rfl ?_
            refine R_iconst 1 rfl rfl ?_
            have b410 := i_rng (h5.1 1 5)
            refine N_iadd (a := (h5.1 1 5).toInt) (b := 1) rfl rfl (by decide) (by omega) (fun x411 q412 => ?_)
            refine K_putf (j := 5) (lo := (-2147483648)) (hi' := 2147483647) rfl ft_4_31 sh_1 rfl hI (by decide) rfl (i_rng _) fr (by decide) (fun h413 g414 hI fr => ?_)
            have fl6 : FR [1] h h413 := by rw [g414]; exact FR_wI _ _ fl6 (by decide)
            have s415 : (h413.1 1 1).toInt = (h5.1 1 1).toInt := by rw [g414, wI_at (by decide)]
            have s416 : (h413.1 1 2).toInt = (h5.1 1 2).toInt := by rw [g414, wI_at (by decide)]
            have s417 : (h413.1 1 3).toInt = (h5.1 1 3).toInt := by rw [g414, wI_at (by decide)]
            have s418 : (h413.1 1 6).toInt = (h5.1 1 6).toInt := by rw [g414, wI_at (by decide)]
            have s419 : (h413.1 2 1).toInt = (h5.1 2 1).toInt := by rw [g414, wI_ne _ _ _ (by decide)]
            have s420 : (h413.1 1 5).toInt = x411.toInt := by rw [g414, wI_is]
            refine R_goto 8 rfl rfl ?_
            exact RUN_weak (psub_cons rfl (psub_nil _)) (ih7 h413 hI fr fl6 (by omega) (by omega) trivial trivial trivial (by omega))
    exact lp4 _ h hI fr (FR.rf _ _) rfl rfl trivial trivial trivial (Nat.lt_succ_self _)
  · exact R_vret rfl rfl ⟨hI, fr, ⟨by omega, by omega, trivial⟩, rfl⟩
abbrev q_J0_coder_7d493_8 (h : PH)  : Option PV → PH → Prop := fun r h' => h = h' ∧ ∃ z : Int32, r = some (.inl z) ∧ ((z.toInt = 0))
set_option maxHeartbeats 4000000 in
set_option maxRecDepth 100000 in
theorem k_J0_coder_7d493_8 (h : PH) (hI : INV h)  : CALL d_J0_coder_7d493 [.inr (.inr (.inr 1))] h (q_J0_coder_7d493_8 h) := by
  show RUN d_J0_coder_7d493 0 [(0, .inr (.inr (.inr 1)))] [] h _
  refine R_gst38 rfl rfl ?_
  refine N_if_eq (a := 1) 13 rfl rfl (by decide) (fun c1 => ?_) (fun c1 => ?_)
  · exfalso; omega
  · refine R_aload_c (k := 0) rfl rfl rfl (by decide) ?_
    refine R_getf_c15 (i := 0) rfl rfl (by decide) ?_
    refine R_goto 14 rfl rfl ?_
    exact R_iret rfl rfl rfl ⟨rfl, _, rfl, by rw [show (0 : Int32).toInt = 0 from rfl] <;> omega⟩
abbrev q_J0_coder_7d493_1 (h : PH)  : Option PV → PH → Prop := fun r h' => h = h' ∧ ∃ z : Int32, r = some (.inl z) ∧ ((z.toInt = 0))
set_option maxHeartbeats 4000000 in
set_option maxRecDepth 100000 in
theorem k_J0_coder_7d493_1 (h : PH) (hI : INV h)  : CALL d_J0_coder_7d493 [.inr (.inr (.inr 10))] h (q_J0_coder_7d493_1 h) := by
  show RUN d_J0_coder_7d493 0 [(0, .inr (.inr (.inr 10)))] [] h _
  refine R_gst38 rfl rfl ?_
  refine N_if_eq (a := 1) 13 rfl rfl (by decide) (fun c1 => ?_) (fun c1 => ?_)
  · exfalso; omega
  · refine R_aload_c (k := 0) rfl rfl rfl (by decide) ?_
    refine R_getf_c15 (i := 9) rfl rfl (by decide) ?_
    refine R_goto 14 rfl rfl ?_
    exact R_iret rfl rfl rfl ⟨rfl, _, rfl, by rw [show (0 : Int32).toInt = 0 from rfl] <;> omega⟩
abbrev q_J0_coder_7d493_2 (h : PH)  : Option PV → PH → Prop := fun r h' => h = h' ∧ ∃ z : Int32, r = some (.inl z) ∧ ((z.toInt = 0))
set_option maxHeartbeats 4000000 in
set_option maxRecDepth 100000 in
theorem k_J0_coder_7d493_2 (h : PH) (hI : INV h)  : CALL d_J0_coder_7d493 [.inr (.inr (.inr 11))] h (q_J0_coder_7d493_2 h) := by
  show RUN d_J0_coder_7d493 0 [(0, .inr (.inr (.inr 11)))] [] h _
  refine R_gst38 rfl rfl ?_
  refine N_if_eq (a := 1) 13 rfl rfl (by decide) (fun c1 => ?_) (fun c1 => ?_)
  · exfalso; omega
  · refine R_aload_c (k := 0) rfl rfl rfl (by decide) ?_
    refine R_getf_c15 (i := 10) rfl rfl (by decide) ?_
    refine R_goto 14 rfl rfl ?_
    exact R_iret rfl rfl rfl ⟨rfl, _, rfl, by rw [show (0 : Int32).toInt = 0 from rfl] <;> omega⟩
abbrev q_J0_coder_7d493_3 (h : PH)  : Option PV → PH → Prop := fun r h' => h = h' ∧ ∃ z : Int32, r = some (.inl z) ∧ ((z.toInt = 0))
set_option maxHeartbeats 4000000 in
set_option maxRecDepth 100000 in
theorem k_J0_coder_7d493_3 (h : PH) (hI : INV h)  : CALL d_J0_coder_7d493 [.inr (.inr (.inr 12))] h (q_J0_coder_7d493_3 h) := by
  show RUN d_J0_coder_7d493 0 [(0, .inr (.inr (.inr 12)))] [] h _
  refine R_gst38 rfl rfl ?_
  refine N_if_eq (a := 1) 13 rfl rfl (by decide) (fun c1 => ?_) (fun c1 => ?_)
  · exfalso; omega
  · refine R_aload_c (k := 0) rfl rfl rfl (by decide) ?_
    refine R_getf_c15 (i := 11) rfl rfl (by decide) ?_
    refine R_goto 14 rfl rfl ?_
    exact R_iret rfl rfl rfl ⟨rfl, _, rfl, by rw [show (0 : Int32).toInt = 0 from rfl] <;> omega⟩
abbrev q_J0_coder_7d493_4 (h : PH)  : Option PV → PH → Prop := fun r h' => h = h' ∧ ∃ z : Int32, r = some (.inl z) ∧ ((z.toInt = 0))
set_option maxHeartbeats 4000000 in
set_option maxRecDepth 100000 in
theorem k_J0_coder_7d493_4 (h : PH) (hI : INV h)  : CALL d_J0_coder_7d493 [.inr (.inr (.inr 13))] h (q_J0_coder_7d493_4 h) := by
  show RUN d_J0_coder_7d493 0 [(0, .inr (.inr (.inr 13)))] [] h _
  refine R_gst38 rfl rfl ?_
  refine N_if_eq (a := 1) 13 rfl rfl (by decide) (fun c1 => ?_) (fun c1 => ?_)
  · exfalso; omega
  · refine R_aload_c (k := 0) rfl rfl rfl (by decide) ?_
    refine R_getf_c15 (i := 12) rfl rfl (by decide) ?_
    refine R_goto 14 rfl rfl ?_
    exact R_iret rfl rfl rfl ⟨rfl, _, rfl, by rw [show (0 : Int32).toInt = 0 from rfl] <;> omega⟩
abbrev q_J0_coder_7d493_5 (h : PH)  : Option PV → PH → Prop := fun r h' => h = h' ∧ ∃ z : Int32, r = some (.inl z) ∧ ((z.toInt = 0))
set_option maxHeartbeats 4000000 in
set_option maxRecDepth 100000 in
theorem k_J0_coder_7d493_5 (h : PH) (hI : INV h)  : CALL d_J0_coder_7d493 [.inr (.inr (.inr 14))] h (q_J0_coder_7d493_5 h) := by
  show RUN d_J0_coder_7d493 0 [(0, .inr (.inr (.inr 14)))] [] h _
  refine R_gst38 rfl rfl ?_
  refine N_if_eq (a := 1) 13 rfl rfl (by decide) (fun c1 => ?_) (fun c1 => ?_)
  · exfalso; omega
  · refine R_aload_c (k := 0) rfl rfl rfl (by decide) ?_
    refine R_getf_c15 (i := 13) rfl rfl (by decide) ?_
    refine R_goto 14 rfl rfl ?_
    exact R_iret rfl rfl rfl ⟨rfl, _, rfl, by rw [show (0 : Int32).toInt = 0 from rfl] <;> omega⟩
abbrev q_J0_coder_7d493_9 (h : PH)  : Option PV → PH → Prop := fun r h' => h = h' ∧ ∃ z : Int32, r = some (.inl z) ∧ ((z.toInt = 0))
set_option maxHeartbeats 4000000 in
set_option maxRecDepth 100000 in
theorem k_J0_coder_7d493_9 (h : PH) (hI : INV h)  : CALL d_J0_coder_7d493 [.inr (.inr (.inr 2))] h (q_J0_coder_7d493_9 h) := by
  show RUN d_J0_coder_7d493 0 [(0, .inr (.inr (.inr 2)))] [] h _
  refine R_gst38 rfl rfl ?_
  refine N_if_eq (a := 1) 13 rfl rfl (by decide) (fun c1 => ?_) (fun c1 => ?_)
  · exfalso; omega
  · refine R_aload_c (k := 0) rfl rfl rfl (by decide) ?_
    refine R_getf_c15 (i := 1) rfl rfl (by decide) ?_
    refine R_goto 14 rfl rfl ?_
    exact R_iret rfl rfl rfl ⟨rfl, _, rfl, by rw [show (0 : Int32).toInt = 0 from rfl] <;> omega⟩
abbrev q_J0_coder_7d493_10 (h : PH)  : Option PV → PH → Prop := fun r h' => h = h' ∧ ∃ z : Int32, r = some (.inl z) ∧ ((z.toInt = 0))
set_option maxHeartbeats 4000000 in
set_option maxRecDepth 100000 in
theorem k_J0_coder_7d493_10 (h : PH) (hI : INV h)  : CALL d_J0_coder_7d493 [.inr (.inr (.inr 3))] h (q_J0_coder_7d493_10 h) := by
  show RUN d_J0_coder_7d493 0 [(0, .inr (.inr (.inr 3)))] [] h _
  refine R_gst38 rfl rfl ?_
  refine N_if_eq (a := 1) 13 rfl rfl (by decide) (fun c1 => ?_) (fun c1 => ?_)
  · exfalso; omega
  · refine R_aload_c (k := 0) rfl rfl rfl (by decide) ?_
    refine R_getf_c15 (i := 2) rfl rfl (by decide) ?_
    refine R_goto 14 rfl rfl ?_
    exact R_iret rfl rfl rfl ⟨rfl, _, rfl, by rw [show (0 : Int32).toInt = 0 from rfl] <;> omega⟩
abbrev q_J0_coder_7d493_11 (h : PH)  : Option PV → PH → Prop := fun r h' => h = h' ∧ ∃ z : Int32, r = some (.inl z) ∧ ((z.toInt = 0))
set_option maxHeartbeats 4000000 in
set_option maxRecDepth 100000 in
theorem k_J0_coder_7d493_11 (h : PH) (hI : INV h)  : CALL d_J0_coder_7d493 [.inr (.inr (.inr 4))] h (q_J0_coder_7d493_11 h) := by
  show RUN d_J0_coder_7d493 0 [(0, .inr (.inr (.inr 4)))] [] h _
  refine R_gst38 rfl rfl ?_
  refine N_if_eq (a := 1) 13 rfl rfl (by decide) (fun c1 => ?_) (fun c1 => ?_)
  · exfalso; omega
  · refine R_aload_c (k := 0) rfl rfl rfl (by decide) ?_
    refine R_getf_c15 (i := 3) rfl rfl (by decide) ?_
    refine R_goto 14 rfl rfl ?_
    exact R_iret rfl rfl rfl ⟨rfl, _, rfl, by rw [show (0 : Int32).toInt = 0 from rfl] <;> omega⟩
abbrev q_J0_coder_7d493_12 (h : PH)  : Option PV → PH → Prop := fun r h' => h = h' ∧ ∃ z : Int32, r = some (.inl z) ∧ ((z.toInt = 0))
set_option maxHeartbeats 4000000 in
set_option maxRecDepth 100000 in
theorem k_J0_coder_7d493_12 (h : PH) (hI : INV h)  : CALL d_J0_coder_7d493 [.inr (.inr (.inr 5))] h (q_J0_coder_7d493_12 h) := by
  show RUN d_J0_coder_7d493 0 [(0, .inr (.inr (.inr 5)))] [] h _
  refine R_gst38 rfl rfl ?_
  refine N_if_eq (a := 1) 13 rfl rfl (by decide) (fun c1 => ?_) (fun c1 => ?_)
  · exfalso; omega
  · refine R_aload_c (k := 0) rfl rfl rfl (by decide) ?_
    refine R_getf_c15 (i := 4) rfl rfl (by decide) ?_
    refine R_goto 14 rfl rfl ?_
    exact R_iret rfl rfl rfl ⟨rfl, _, rfl, by rw [show (0 : Int32).toInt = 0 from rfl] <;> omega⟩
abbrev q_J0_coder_7d493_13 (h : PH)  : Option PV → PH → Prop := fun r h' => h = h' ∧ ∃ z : Int32, r = some (.inl z) ∧ ((z.toInt = 0))
set_option maxHeartbeats 4000000 in
set_option maxRecDepth 100000 in
theorem k_J0_coder_7d493_13 (h : PH) (hI : INV h)  : CALL d_J0_coder_7d493 [.inr (.inr (.inr 6))] h (q_J0_coder_7d493_13 h) := by
  show RUN d_J0_coder_7d493 0 [(0, .inr (.inr (.inr 6)))] [] h _
  refine R_gst38 rfl rfl ?_
  refine N_if_eq (a := 1) 13 rfl rfl (by decide) (fun c1 => ?_) (fun c1 => ?_)
  · exfalso; omega
  · refine R_aload_c (k := 0) rfl rfl rfl (by decide) ?_
    refine R_getf_c15 (i := 5) rfl rfl (by decide) ?_
    refine R_goto 14 rfl rfl ?_
    exact R_iret rfl rfl rfl ⟨rfl, _, rfl, by rw [show (0 : Int32).toInt = 0 from rfl] <;> omega⟩
abbrev q_J0_coder_7d493 (h : PH)  : Option PV → PH → Prop := fun r h' => h = h' ∧ ∃ z : Int32, r = some (.inl z) ∧ ((z.toInt = 0))
set_option maxHeartbeats 4000000 in
set_option maxRecDepth 100000 in
theorem k_J0_coder_7d493 (h : PH) (hI : INV h)  : CALL d_J0_coder_7d493 [.inr (.inr (.inr 7))] h (q_J0_coder_7d493 h) := by
  show RUN d_J0_coder_7d493 0 [(0, .inr (.inr (.inr 7)))] [] h _
  refine R_gst38 rfl rfl ?_
  refine N_if_eq (a := 1) 13 rfl rfl (by decide) (fun c1 => ?_) (fun c1 => ?_)
  · exfalso; omega
  · refine R_aload_c (k := 0) rfl rfl rfl (by decide) ?_
    refine R_getf_c15 (i := 6) rfl rfl (by decide) ?_
    refine R_goto 14 rfl rfl ?_
    exact R_iret rfl rfl rfl ⟨rfl, _, rfl, by rw [show (0 : Int32).toInt = 0 from rfl] <;> omega⟩
abbrev q_J0_coder_7d493_6 (h : PH)  : Option PV → PH → Prop := fun r h' => h = h' ∧ ∃ z : Int32, r = some (.inl z) ∧ ((z.toInt = 0))
set_option maxHeartbeats 4000000 in
set_option maxRecDepth 100000 in
theorem k_J0_coder_7d493_6 (h : PH) (hI : INV h)  : CALL d_J0_coder_7d493 [.inr (.inr (.inr 8))] h (q_J0_coder_7d493_6 h) := by
  show RUN d_J0_coder_7d493 0 [(0, .inr (.inr (.inr 8)))] [] h _
  refine R_gst38 rfl rfl ?_
  refine N_if_eq (a := 1) 13 rfl rfl (by decide) (fun c1 => ?_) (fun c1 => ?_)
  · exfalso; omega
  · refine R_aload_c (k := 0) rfl rfl rfl (by decide) ?_
    refine R_getf_c15 (i := 7) rfl rfl (by decide) ?_
    refine R_goto 14 rfl rfl ?_
    exact R_iret rfl rfl rfl ⟨rfl, _, rfl, by rw [show (0 : Int32).toInt = 0 from rfl] <;> omega⟩
abbrev q_J0_coder_7d493_7 (h : PH)  : Option PV → PH → Prop := fun r h' => h = h' ∧ ∃ z : Int32, r = some (.inl z) ∧ ((z.toInt = 0))
set_option maxHeartbeats 4000000 in
set_option maxRecDepth 100000 in
theorem k_J0_coder_7d493_7 (h : PH) (hI : INV h)  : CALL d_J0_coder_7d493 [.inr (.inr (.inr 9))] h (q_J0_coder_7d493_7 h) := by
  show RUN d_J0_coder_7d493 0 [(0, .inr (.inr (.inr 9)))] [] h _
  refine R_gst38 rfl rfl ?_
  refine N_if_eq (a := 1) 13 rfl rfl (by decide) (fun c1 => ?_) (fun c1 => ?_)
  · exfalso; omega
  · refine R_aload_c (k := 0) rfl rfl rfl (by decide) ?_
    refine R_getf_c15 (i := 8) rfl rfl (by decide) ?_
    refine R_goto 14 rfl rfl ?_
    exact R_iret rfl rfl rfl ⟨rfl, _, rfl, by rw [show (0 : Int32).toInt = 0 from rfl] <;> omega⟩
abbrev q_J0_length_8abf5_8 (h : PH)  : Option PV → PH → Prop := fun r h' => h = h' ∧ ∃ z : Int32, r = some (.inl z) ∧ ((z.toInt = 7))
set_option maxHeartbeats 4000000 in
set_option maxRecDepth 100000 in
theorem k_J0_length_8abf5_8 (h : PH) (hI : INV h)  : CALL d_J0_length_8abf5 [.inr (.inr (.inr 1))] h (q_J0_length_8abf5_8 h) := by
  show RUN d_J0_length_8abf5 0 [(0, .inr (.inr (.inr 1)))] [] h _
  refine R_aload_c (k := 0) rfl rfl rfl (by decide) ?_
  refine R_getf_c9 (i := 0) rfl rfl (by decide) ?_
  refine R_alen 7 rfl (by decide) rfl ?_
  refine R_aload_c (k := 0) rfl rfl rfl (by decide) ?_
  refine R_callV (v := .inr (.inr (.inr 1))) (As := []) (rest := [.inl 7]) rfl mt_12_i335 pp_J0_coder_7d493 (by decide) rfl rfl rfl (Nat.le_of_ble_eq_true rfl) (Nat.le_of_ble_eq_true rfl) ((k_J0_coder_7d493_8 h hI).mono (fun r1 h2 p3 => ?_))
  obtain ⟨rfl, x4, rfl, q5⟩ := p3
  show RUN d_J0_length_8abf5 9 [(0, .inr (.inr (.inr 1)))] [.inl x4, .inl 7] h _
  refine N_ishr0 (a := 7) rfl (by decide) (by omega) (fun x6 q7 => ?_)
  exact R_iret rfl rfl rfl ⟨rfl, _, rfl, by omega⟩
abbrev q_J0_length_8abf5_1 (h : PH)  : Option PV → PH → Prop := fun r h' => h = h' ∧ ∃ z : Int32, r = some (.inl z) ∧ ((z.toInt = 8))
set_option maxHeartbeats 4000000 in
set_option maxRecDepth 100000 in
theorem k_J0_length_8abf5_1 (h : PH) (hI : INV h)  : CALL d_J0_length_8abf5 [.inr (.inr (.inr 10))] h (q_J0_length_8abf5_1 h) := by
  show RUN d_J0_length_8abf5 0 [(0, .inr (.inr (.inr 10)))] [] h _
  refine R_aload_c (k := 0) rfl rfl rfl (by decide) ?_
  refine R_getf_c9 (i := 9) rfl rfl (by decide) ?_
  refine R_alen 8 rfl (by decide) rfl ?_
  refine R_aload_c (k := 0) rfl rfl rfl (by decide) ?_
  refine R_callV (v := .inr (.inr (.inr 10))) (As := []) (rest := [.inl 8]) rfl mt_12_i335 pp_J0_coder_7d493 (by decide) rfl rfl rfl (Nat.le_of_ble_eq_true rfl) (Nat.le_of_ble_eq_true rfl) ((k_J0_coder_7d493_1 h hI).mono (fun r1 h2 p3 => ?_))
  obtain ⟨rfl, x4, rfl, q5⟩ := p3
  show RUN d_J0_length_8abf5 9 [(0, .inr (.inr (.inr 10)))] [.inl x4, .inl 8] h _
  refine N_ishr0 (a := 8) rfl (by decide) (by omega) (fun x6 q7 => ?_)
  exact R_iret rfl rfl rfl ⟨rfl, _, rfl, by omega⟩
abbrev q_J0_length_8abf5_2 (h : PH)  : Option PV → PH → Prop := fun r h' => h = h' ∧ ∃ z : Int32, r = some (.inl z) ∧ ((z.toInt = 5))
set_option maxHeartbeats 4000000 in
set_option maxRecDepth 100000 in
theorem k_J0_length_8abf5_2 (h : PH) (hI : INV h)  : CALL d_J0_length_8abf5 [.inr (.inr (.inr 11))] h (q_J0_length_8abf5_2 h) := by
  show RUN d_J0_length_8abf5 0 [(0, .inr (.inr (.inr 11)))] [] h _
  refine R_aload_c (k := 0) rfl rfl rfl (by decide) ?_
  refine R_getf_c9 (i := 10) rfl rfl (by decide) ?_
  refine R_alen 5 rfl (by decide) rfl ?_
  refine R_aload_c (k := 0) rfl rfl rfl (by decide) ?_
  refine R_callV (v := .inr (.inr (.inr 11))) (As := []) (rest := [.inl 5]) rfl mt_12_i335 pp_J0_coder_7d493 (by decide) rfl rfl rfl (Nat.le_of_ble_eq_true rfl) (Nat.le_of_ble_eq_true rfl) ((k_J0_coder_7d493_2 h hI).mono (fun r1 h2 p3 => ?_))
  obtain ⟨rfl, x4, rfl, q5⟩ := p3
  show RUN d_J0_length_8abf5 9 [(0, .inr (.inr (.inr 11)))] [.inl x4, .inl 5] h _
  refine N_ishr0 (a := 5) rfl (by decide) (by omega) (fun x6 q7 => ?_)
  exact R_iret rfl rfl rfl ⟨rfl, _, rfl, by omega⟩
abbrev q_J0_length_8abf5_3 (h : PH)  : Option PV → PH → Prop := fun r h' => h = h' ∧ ∃ z : Int32, r = some (.inl z) ∧ ((z.toInt = 4))
set_option maxHeartbeats 4000000 in
set_option maxRecDepth 100000 in
theorem k_J0_length_8abf5_3 (h : PH) (hI : INV h)  : CALL d_J0_length_8abf5 [.inr (.inr (.inr 12))] h (q_J0_length_8abf5_3 h) := by
  show RUN d_J0_length_8abf5 0 [(0, .inr (.inr (.inr 12)))] [] h _
  refine R_aload_c (k := 0) rfl rfl rfl (by decide) ?_
  refine R_getf_c9 (i := 11) rfl rfl (by decide) ?_
  refine R_alen 4 rfl (by decide) rfl ?_
  refine R_aload_c (k := 0) rfl rfl rfl (by decide) ?_
  refine R_callV (v := .inr (.inr (.inr 12))) (As := []) (rest := [.inl 4]) rfl mt_12_i335 pp_J0_coder_7d493 (by decide) rfl rfl rfl (Nat.le_of_ble_eq_true rfl) (Nat.le_of_ble_eq_true rfl) ((k_J0_coder_7d493_3 h hI).mono (fun r1 h2 p3 => ?_))
  obtain ⟨rfl, x4, rfl, q5⟩ := p3
  show RUN d_J0_length_8abf5 9 [(0, .inr (.inr (.inr 12)))] [.inl x4, .inl 4] h _
  refine N_ishr0 (a := 4) rfl (by decide) (by omega) (fun x6 q7 => ?_)
  exact R_iret rfl rfl rfl ⟨rfl, _, rfl, by omega⟩
abbrev q_J0_length_8abf5_4 (h : PH)  : Option PV → PH → Prop := fun r h' => h = h' ∧ ∃ z : Int32, r = some (.inl z) ∧ ((z.toInt = 4))
set_option maxHeartbeats 4000000 in
set_option maxRecDepth 100000 in
theorem k_J0_length_8abf5_4 (h : PH) (hI : INV h)  : CALL d_J0_length_8abf5 [.inr (.inr (.inr 13))] h (q_J0_length_8abf5_4 h) := by
  show RUN d_J0_length_8abf5 0 [(0, .inr (.inr (.inr 13)))] [] h _
  refine R_aload_c (k := 0) rfl rfl rfl (by decide) ?_
  refine R_getf_c9 (i := 12) rfl rfl (by decide) ?_
  refine R_alen 4 rfl (by decide) rfl ?_
  refine R_aload_c (k := 0) rfl rfl rfl (by decide) ?_
  refine R_callV (v := .inr (.inr (.inr 13))) (As := []) (rest := [.inl 4]) rfl mt_12_i335 pp_J0_coder_7d493 (by decide) rfl rfl rfl (Nat.le_of_ble_eq_true rfl) (Nat.le_of_ble_eq_true rfl) ((k_J0_coder_7d493_4 h hI).mono (fun r1 h2 p3 => ?_))
  obtain ⟨rfl, x4, rfl, q5⟩ := p3
  show RUN d_J0_length_8abf5 9 [(0, .inr (.inr (.inr 13)))] [.inl x4, .inl 4] h _
  refine N_ishr0 (a := 4) rfl (by decide) (by omega) (fun x6 q7 => ?_)
  exact R_iret rfl rfl rfl ⟨rfl, _, rfl, by omega⟩
abbrev q_J0_length_8abf5_5 (h : PH)  : Option PV → PH → Prop := fun r h' => h = h' ∧ ∃ z : Int32, r = some (.inl z) ∧ ((z.toInt = 5))
set_option maxHeartbeats 4000000 in
set_option maxRecDepth 100000 in
theorem k_J0_length_8abf5_5 (h : PH) (hI : INV h)  : CALL d_J0_length_8abf5 [.inr (.inr (.inr 14))] h (q_J0_length_8abf5_5 h) := by
  show RUN d_J0_length_8abf5 0 [(0, .inr (.inr (.inr 14)))] [] h _
  refine R_aload_c (k := 0) rfl rfl rfl (by decide) ?_
  refine R_getf_c9 (i := 13) rfl rfl (by decide) ?_
  refine R_alen 5 rfl (by decide) rfl ?_
  refine R_aload_c (k := 0) rfl rfl rfl (by decide) ?_
  refine R_callV (v := .inr (.inr (.inr 14))) (As := []) (rest := [.inl 5]) rfl mt_12_i335 pp_J0_coder_7d493 (by decide) rfl rfl rfl (Nat.le_of_ble_eq_true rfl) (Nat.le_of_ble_eq_true rfl) ((k_J0_coder_7d493_5 h hI).mono (fun r1 h2 p3 => ?_))
  obtain ⟨rfl, x4, rfl, q5⟩ := p3
  show RUN d_J0_length_8abf5 9 [(0, .inr (.inr (.inr 14)))] [.inl x4, .inl 5] h _
  refine N_ishr0 (a := 5) rfl (by decide) (by omega) (fun x6 q7 => ?_)
  exact R_iret rfl rfl rfl ⟨rfl, _, rfl, by omega⟩
abbrev q_J0_length_8abf5_9 (h : PH)  : Option PV → PH → Prop := fun r h' => h = h' ∧ ∃ z : Int32, r = some (.inl z) ∧ ((z.toInt = 7))
set_option maxHeartbeats 4000000 in
set_option maxRecDepth 100000 in
theorem k_J0_length_8abf5_9 (h : PH) (hI : INV h)  : CALL d_J0_length_8abf5 [.inr (.inr (.inr 2))] h (q_J0_length_8abf5_9 h) := by
  show RUN d_J0_length_8abf5 0 [(0, .inr (.inr (.inr 2)))] [] h _
  refine R_aload_c (k := 0) rfl rfl rfl (by decide) ?_
  refine R_getf_c9 (i := 1) rfl rfl (by decide) ?_
  refine R_alen 7 rfl (by decide) rfl ?_
  refine R_aload_c (k := 0) rfl rfl rfl (by decide) ?_
  refine R_callV (v := .inr (.inr (.inr 2))) (As := []) (rest := [.inl 7]) rfl mt_12_i335 pp_J0_coder_7d493 (by decide) rfl rfl rfl (Nat.le_of_ble_eq_true rfl) (Nat.le_of_ble_eq_true rfl) ((k_J0_coder_7d493_9 h hI).mono (fun r1 h2 p3 => ?_))
  obtain ⟨rfl, x4, rfl, q5⟩ := p3
  show RUN d_J0_length_8abf5 9 [(0, .inr (.inr (.inr 2)))] [.inl x4, .inl 7] h _
  refine N_ishr0 (a := 7) rfl (by decide) (by omega) (fun x6 q7 => ?_)
  exact R_iret rfl rfl rfl ⟨rfl, _, rfl, by omega⟩
abbrev q_J0_length_8abf5_10 (h : PH)  : Option PV → PH → Prop := fun r h' => h = h' ∧ ∃ z : Int32, r = some (.inl z) ∧ ((z.toInt = 7))
set_option maxHeartbeats 4000000 in
set_option maxRecDepth 100000 in
theorem k_J0_length_8abf5_10 (h : PH) (hI : INV h)  : CALL d_J0_length_8abf5 [.inr (.inr (.inr 3))] h (q_J0_length_8abf5_10 h) := by
  show RUN d_J0_length_8abf5 0 [(0, .inr (.inr (.inr 3)))] [] h _
  refine R_aload_c (k := 0) rfl rfl rfl (by decide) ?_
  refine R_getf_c9 (i := 2) rfl rfl (by decide) ?_
  refine R_alen 7 rfl (by decide) rfl ?_
  refine R_aload_c (k := 0) rfl rfl rfl (by decide) ?_
  refine R_callV (v := .inr (.inr (.inr 3))) (As := []) (rest := [.inl 7]) rfl mt_12_i335 pp_J0_coder_7d493 (by decide) rfl rfl rfl (Nat.le_of_ble_eq_true rfl) (Nat.le_of_ble_eq_true rfl) ((k_J0_coder_7d493_10 h hI).mono (fun r1 h2 p3 => ?_))
  obtain ⟨rfl, x4, rfl, q5⟩ := p3
  show RUN d_J0_length_8abf5 9 [(0, .inr (.inr (.inr 3)))] [.inl x4, .inl 7] h _
  refine N_ishr0 (a := 7) rfl (by decide) (by omega) (fun x6 q7 => ?_)
  exact R_iret rfl rfl rfl ⟨rfl, _, rfl, by omega⟩
