abbrev q_X8_fills (h : PH) (a0 : Int32) : Option PV → PH → Prop := fun r h' => INV h' ∧ FR [0, 17] h h' ∧ (True) ∧ ∃ z : Int32, r = some (.inl z) ∧ ((True))
set_option maxHeartbeats 4000000 in
set_option maxRecDepth 100000 in
theorem k_X8_fills (h : PH) (hI : INV h) (a0 : Int32) : CALL d_X8_fills [.inr (.inr (.inl 0)), .inl a0] h (q_X8_fills h a0) := by
  show RUN d_X8_fills 0 [(0, .inr (.inr (.inl 0))), (1, .inl a0)] [] h _
  have b1 := i_rng a0
  have fr : FR [0, 17] h h := FR.rf _ _
  refine R_iload_n (k := 1) rfl rfl rfl ?_
  refine R_iconst 1 rfl rfl ?_
  refine N_icmp_lt (a := a0.toInt) (b := 1) 21 rfl rfl rfl (by decide) (fun c2 => ?_) (fun c2 => ?_)
  · refine R_bipush (-2) rfl rfl ?_
    exact R_iret rfl rfl rfl ⟨hI, fr, trivial, _, rfl, trivial⟩
  · refine R_iload_n (k := 1) rfl rfl rfl ?_
    refine R_bipush 30 rfl rfl ?_
    refine N_icmp_gt (a := a0.toInt) (b := 30) 21 rfl rfl rfl (by decide) (fun c3 => ?_) (fun c3 => ?_)
    · refine R_bipush (-2) rfl rfl ?_
      exact R_iret rfl rfl rfl ⟨hI, fr, trivial, _, rfl, trivial⟩
    · refine R_aload_n (k := 0) rfl rfl rfl ?_
      refine R_getf_r (j := 3) rfl ft_8_28 sh_0 rfl ?_
      have b4 : (0 : Int) ≤ (h.1 17 0).toInt ∧ (h.1 17 0).toInt ≤ 60 := hI.1 17 0
      have e5 : 0 < (h.1 17 10).toInt → 1 ≤ (h.1 17 0).toInt := hI.2.1
      refine R_callV (v := .inr (.inr (.inl 16))) (As := []) (rest := []) rfl mt_8_i146 pp_X1_stands (by decide) rfl rfl rfl (Nat.le_of_ble_eq_true rfl) (Nat.le_of_ble_eq_true rfl) ((k_X1_stands h hI).mono (fun r6 h7 p8 => ?_))
      obtain ⟨rfl, x9, rfl, q10 | q10⟩ := p8
      · show RUN d_X8_fills 18 [(0, .inr (.inr (.inl 0))), (1, .inl a0)] [.inl x9] h _
        refine N_if_ne (a := x9.toInt) 24 rfl rfl rfl (fun c11 => ?_) (fun c11 => ?_)
        · exfalso; omega
        · refine R_bipush (-2) rfl rfl ?_
          exact R_iret rfl rfl rfl ⟨hI, fr, trivial, _, rfl, trivial⟩
      · show RUN d_X8_fills 18 [(0, .inr (.inr (.inl 0))), (1, .inl a0)] [.inl x9] h _
        refine N_if_ne (a := x9.toInt) 24 rfl rfl rfl (fun c12 => ?_) (fun c12 => ?_)
        · refine R_aload_n (k := 0) rfl rfl rfl ?_
          refine R_getf_r (j := 3) rfl ft_8_28 sh_0 rfl ?_
          refine R_getf_r (j := 0) rfl ft_8_109 sh_16 rfl ?_
          refine R_bipush 9 rfl rfl ?_
          refine R_iald rfl sh_17 (by decide) ?_
          have b13 : (0 : Int) ≤ (h.1 17 9).toInt ∧ (h.1 17 9).toInt ≤ 30 := hI.1 17 9
          show RUN d_X8_fills 34 [(0, .inr (.inr (.inl 0))), (1, .inl a0)] [.inl (h.1 17 9)] h _
          refine N_if_le (a := (h.1 17 9).toInt) 40 rfl rfl rfl (fun c14 => ?_) (fun c14 => ?_)
          · refine R_aload_n (k := 0) rfl rfl rfl ?_
            refine R_getf_r (j := 3) rfl ft_8_28 sh_0 rfl ?_
            refine R_getf_r (j := 0) rfl ft_8_109 sh_16 rfl ?_
            refine R_iconst 2 rfl rfl ?_
            refine R_iald rfl sh_17 (by decide) ?_
            show RUN d_X8_fills 49 [(0, .inr (.inr (.inl 0))), (1, .inl a0)] [.inl (h.1 17 2)] h _
            refine R_istore_n (k := 2) rfl [(2, .inl (h.1 17 2)), (0, .inr (.inr (.inl 0))), (1, .inl a0)] rfl rfl (by decide) ?_
            refine R_aload_n (k := 0) rfl rfl rfl ?_
            refine R_getf_r (j := 3) rfl ft_8_28 sh_0 rfl ?_
            refine R_getf_r (j := 0) rfl ft_8_109 sh_16 rfl ?_
            refine R_iconst 2 rfl rfl ?_
            refine R_iload_n (k := 1) rfl rfl rfl ?_
            refine K_iasp (a := 2) (lo := (-2147483648)) (hi' := 2147483647) rfl sh_17 (by decide) (by decide) hI (by decide) rfl (i_rng _) fr (by decide) (fun h15 g16 hI fr => ?_)
            have s17 : (h15.1 17 10).toInt = (h.1 17 10).toInt := by rw [g16, show (2 : Int32).toNatClampNeg = 2 from rfl, wI_at (by decide)]
            have s18 : (h15.1 17 0).toInt = (h.1 17 0).toInt := by rw [g16, show (2 : Int32).toNatClampNeg = 2 from rfl, wI_at (by decide)]
            have s19 : (h15.1 17 9).toInt = (h.1 17 9).toInt := by rw [g16, show (2 : Int32).toNatClampNeg = 2 from rfl, wI_at (by decide)]
            have s20 : (h15.1 17 2).toInt = a0.toInt := by rw [g16, show (2 : Int32).toNatClampNeg = 2 from rfl, wI_is]
            refine R_aload_n (k := 0) rfl rfl rfl ?_
            refine R_callV (v := .inr (.inr (.inl 0))) (As := []) (rest := []) rfl mt_8_i377 pp_X8_forget (by decide) rfl rfl rfl (Nat.le_of_ble_eq_true rfl) (Nat.le_of_ble_eq_true rfl) ((k_X8_forget h15 hI).mono (fun r21 h22 p23 => ?_))
            obtain ⟨hJ, fj, -, rfl⟩ := p23
            have f24 := fj
            have fr := fr.trans fj (by decide)
            have hI := hJ
            have s25 : (h22.1 17 10).toInt = (h15.1 17 10).toInt := by rw [(f24 17 (by decide)).1]
            have s26 : (h22.1 17 0).toInt = (h15.1 17 0).toInt := by rw [(f24 17 (by decide)).1]
            have s27 : (h22.1 17 9).toInt = (h15.1 17 9).toInt := by rw [(f24 17 (by decide)).1]
            have s28 : (h22.1 17 2).toInt = (h15.1 17 2).toInt := by rw [(f24 17 (by decide)).1]
            show RUN d_X8_fills 64 [(2, .inl (h.1 17 2)), (0, .inr (.inr (.inl 0))), (1, .inl a0)] [] h22 _
            refine R_iload_n (k := 2) rfl rfl rfl ?_
            exact R_iret rfl rfl rfl ⟨hI, fr, trivial, _, rfl, trivial⟩
          · refine R_bipush (-5) rfl rfl ?_
            exact R_iret rfl rfl rfl ⟨hI, fr, trivial, _, rfl, trivial⟩
        · exfalso; omega
abbrev q_X9_fills (h : PH) (a0 : Int32) : Option PV → PH → Prop := fun r h' => INV h' ∧ FR [97] h h' ∧ (True) ∧ ∃ z : Int32, r = some (.inl z) ∧ ((True))
set_option maxHeartbeats 4000000 in
set_option maxRecDepth 100000 in
theorem k_X9_fills (h : PH) (hI : INV h) (a0 : Int32) : CALL d_X9_fills [.inr (.inr (.inl 96)), .inl a0] h (q_X9_fills h a0) := by
  show RUN d_X9_fills 0 [(0, .inr (.inr (.inl 96))), (1, .inl a0)] [] h _
  have b1 := i_rng a0
  have fr : FR [97] h h := FR.rf _ _
  refine R_aload_n (k := 0) rfl rfl rfl ?_
  have b2 : (0 : Int) ≤ (h.1 97 0).toInt ∧ (h.1 97 0).toInt ≤ 60 := hI.1 97 0
  have e3 : 0 < (h.1 97 10).toInt → 1 ≤ (h.1 97 0).toInt := hI.2.2.2.2.2.1.2.1
  refine R_callV (v := .inr (.inr (.inl 96))) (As := []) (rest := []) rfl mt_9_i301 pp_X9_isBrigade (by decide) rfl rfl rfl (Nat.le_of_ble_eq_true rfl) (Nat.le_of_ble_eq_true rfl) ((k_X9_isBrigade h hI).mono (fun r4 h5 p6 => ?_))
  obtain ⟨rfl, x7, rfl, q8 | q8⟩ := p6
  · show RUN d_X9_fills 4 [(0, .inr (.inr (.inl 96))), (1, .inl a0)] [.inl x7] h _
    refine N_if_eq (a := x7.toInt) 19 rfl rfl rfl (fun c9 => ?_) (fun c9 => ?_)
    · refine R_bipush (-2) rfl rfl ?_
      exact R_iret rfl rfl rfl ⟨hI, fr, trivial, _, rfl, trivial⟩
    · exfalso; omega
  · show RUN d_X9_fills 4 [(0, .inr (.inr (.inl 96))), (1, .inl a0)] [.inl x7] h _
    refine N_if_eq (a := x7.toInt) 19 rfl rfl rfl (fun c10 => ?_) (fun c10 => ?_)
    · exfalso; omega
    · refine R_iload_n (k := 1) rfl rfl rfl ?_
      refine N_i2l rfl (fun w11 q12 => ?_)
      refine R_lconst 1 rfl rfl ?_
      refine R_ldc2 (x := 30) rfl kt_9_527 ?_
      have k13 : (1 : Int64).toInt = 1 := by decide
      have k14 : (30 : Int64).toInt = 30 := by decide
      refine R_callS (As := [.inr (.inl w11), .inr (.inl 1), .inr (.inl 30)]) (rest := []) rfl mt_9_i125 (by decide) pp_X9_in (by decide) rfl rfl (Nat.le_of_ble_eq_true rfl) (Nat.le_of_ble_eq_true rfl) ((k_X9_in h hI w11 (1 : Int64) (30 : Int64)).mono (fun r15 h16 p17 => ?_))
      obtain ⟨rfl, x18, rfl, q19 | q19 | q19⟩ := p17
      · show RUN d_X9_fills 16 [(0, .inr (.inr (.inl 96))), (1, .inl a0)] [.inl x18] h _
        refine N_if_ne (a := x18.toInt) 22 rfl rfl rfl (fun c20 => ?_) (fun c20 => ?_)
        · exfalso; omega
        · refine R_bipush (-2) rfl rfl ?_
          exact R_iret rfl rfl rfl ⟨hI, fr, trivial, _, rfl, trivial⟩
      · show RUN d_X9_fills 16 [(0, .inr (.inr (.inl 96))), (1, .inl a0)] [.inl x18] h _
        refine N_if_ne (a := x18.toInt) 22 rfl rfl rfl (fun c21 => ?_) (fun c21 => ?_)
        · exfalso; omega
        · refine R_bipush (-2) rfl rfl ?_
          exact R_iret rfl rfl rfl ⟨hI, fr, trivial, _, rfl, trivial⟩
      · show RUN d_X9_fills 16 [(0, .inr (.inr (.inl 96))), (1, .inl a0)] [.inl x18] h _
        refine N_if_ne (a := x18.toInt) 22 rfl rfl rfl (fun c22 => ?_) (fun c22 => ?_)
        · refine R_aload_n (k := 0) rfl rfl rfl ?_
          refine R_getf_r (j := 1) rfl ft_9_9 sh_96 rfl ?_
          refine R_bipush 9 rfl rfl ?_
          refine R_iald rfl sh_97 (by decide) ?_
          have b23 : (0 : Int) ≤ (h.1 97 9).toInt ∧ (h.1 97 9).toInt ≤ 30 := hI.1 97 9
          show RUN d_X9_fills 29 [(0, .inr (.inr (.inl 96))), (1, .inl a0)] [.inl (h.1 97 9)] h _
          refine N_if_le (a := (h.1 97 9).toInt) 35 rfl rfl rfl (fun c24 => ?_) (fun c24 => ?_)
          · refine R_aload_n (k := 0) rfl rfl rfl ?_
            refine R_getf_r (j := 1) rfl ft_9_9 sh_96 rfl ?_
            refine R_iconst 2 rfl rfl ?_
            refine R_iald rfl sh_97 (by decide) ?_
            show RUN d_X9_fills 41 [(0, .inr (.inr (.inl 96))), (1, .inl a0)] [.inl (h.1 97 2)] h _
            refine R_istore_n (k := 2) rfl [(2, .inl (h.1 97 2)), (0, .inr (.inr (.inl 96))), (1, .inl a0)] rfl rfl (by decide) ?_
            refine R_aload_n (k := 0) rfl rfl rfl ?_
            refine R_getf_r (j := 1) rfl ft_9_9 sh_96 rfl ?_
            refine R_iconst 2 rfl rfl ?_
            refine R_iload_n (k := 1) rfl rfl rfl ?_
            refine K_iasp (a := 2) (lo := (-2147483648)) (hi' := 2147483647) rfl sh_97 (by decide) (by decide) hI (by decide) rfl (i_rng _) fr (by decide) (fun h25 g26 hI fr => ?_)
            have s27 : (h25.1 97 10).toInt = (h.1 97 10).toInt := by rw [g26, show (2 : Int32).toNatClampNeg = 2 from rfl, wI_at (by decide)]
            have s28 : (h25.1 97 0).toInt = (h.1 97 0).toInt := by rw [g26, show (2 : Int32).toNatClampNeg = 2 from rfl, wI_at (by decide)]
            have s29 : (h25.1 97 9).toInt = (h.1 97 9).toInt := by rw [g26, show (2 : Int32).toNatClampNeg = 2 from rfl, wI_at (by decide)]
            have s30 : (h25.1 97 2).toInt = a0.toInt := by rw [g26, show (2 : Int32).toNatClampNeg = 2 from rfl, wI_is]
            refine R_iload_n (k := 2) rfl rfl rfl ?_
            exact R_iret rfl rfl rfl ⟨hI, fr, trivial, _, rfl, trivial⟩
          · refine R_bipush (-5) rfl rfl ?_
            exact R_iret rfl rfl rfl ⟨hI, fr, trivial, _, rfl, trivial⟩
        · exfalso; omega
abbrev q_X5_rowsThere (h : PH)  : Option PV → PH → Prop := fun r h' => h = h' ∧ ∃ z : Int32, r = some (.inl z) ∧ (((-2147483648) ≤ z.toInt ∧ z.toInt ≤ 4))
set_option maxHeartbeats 4000000 in
set_option maxRecDepth 100000 in
theorem k_X5_rowsThere (h : PH) (hI : INV h)  : CALL d_X5_rowsThere [.inr (.inr (.inl 66))] h (q_X5_rowsThere h) := by
  show RUN d_X5_rowsThere 0 [(0, .inr (.inr (.inl 66)))] [] h _
  refine R_iconst 0 rfl rfl ?_
  refine R_istore_n (k := 1) rfl [(1, .inl 0), (0, .inr (.inr (.inl 66)))] rfl rfl (by decide) ?_
  refine R_iconst 0 rfl rfl ?_
  refine R_istore_n (k := 2) rfl [(2, .inl 0), (1, .inl 0), (0, .inr (.inr (.inl 66)))] rfl rfl (by decide) ?_
  have lp2 : ∀ (n1 : Nat) (x3 : Int32) (x4 : Int32), x3.toInt ≤ 4 → 0 ≤ x4.toInt ∧ x4.toInt ≤ 4 → x3.toInt ≤ x4.toInt + 0 → (4 - x4.toInt).toNat < n1 → RUN d_X5_rowsThere 4 [(2, .inl x4), (1, .inl x3), (0, .inr (.inr (.inl 66)))] [] h (q_X5_rowsThere h) := by
    intro n1
    induction n1 with
    | zero => intro x3 x4 m6 m7 m8 hz; exact absurd hz (Nat.not_lt_zero _)
    | succ n1 ih5 =>
      intro x3 x4 m6 m7 m8 hz
      refine R_iload_n (k := 2) rfl rfl rfl ?_
      refine R_iconst 4 rfl rfl ?_
      refine N_icmp_ge (a := x4.toInt) (b := 4) 26 rfl rfl rfl (by decide) (fun c9 => ?_) (fun c9 => ?_)
      · refine R_iload_n (k := 1) rfl rfl rfl ?_
        have b10 := i_rng x3
        exact R_iret rfl rfl rfl ⟨rfl, _, rfl, by omega⟩
      · refine R_aload_n (k := 0) rfl rfl rfl ?_
        refine R_iload_n (k := 2) rfl rfl rfl ?_
        refine R_callV (v := .inr (.inr (.inl 66))) (As := [.inl x4]) (rest := []) rfl mt_5_i22 pp_X5_hasRow (by decide) rfl rfl rfl (Nat.le_of_ble_eq_true rfl) (Nat.le_of_ble_eq_true rfl) ((k_X5_hasRow h hI x4 (by omega)).mono (fun r11 h12 p13 => ?_))
        obtain ⟨rfl, x14, rfl, q15 | q15⟩ := p13
        · show RUN d_X5_rowsThere 14 [(2, .inl x4), (1, .inl x3), (0, .inr (.inr (.inl 66)))] [.inl x14] h _
          refine N_if_eq (a := x14.toInt) 20 rfl rfl rfl (fun c16 => ?_) (fun c16 => ?_)
          · refine N_iinc (a := x4.toInt) (c := 1) (fun w => [(2, .inl w), (1, .inl x3), (0, .inr (.inr (.inl 66)))]) rfl rfl (fun _ => rfl) (by decide) rfl (by decide) (by omega) (fun x17 q18 => ?_)
            refine R_goto 4 rfl rfl ?_
            have b19 := i_rng x3
            exact RUN_weak (psub_cons rfl (psub_cons rfl (psub_cons rfl (psub_nil _)))) (ih5 x3 x17 (by omega) (by omega) (by omega) (by omega))
          · exfalso; omega
        · show RUN d_X5_rowsThere 14 [(2, .inl x4), (1, .inl x3), (0, .inr (.inr (.inl 66)))] [.inl x14] h _
          refine N_if_eq (a := x14.toInt) 20 rfl rfl rfl (fun c20 => ?_) (fun c20 => ?_)
          · exfalso; omega
          · have b21 := i_rng x3
            have b23 := i_rng x4
            refine N_iinc (a := x3.toInt) (c := 1) (fun w => [(1, .inl w), (2, .inl x4), (0, .inr (.inr (.inl 66)))]) rfl rfl (fun _ => rfl) (by decide) rfl (by decide) (by omega) (fun x22 q24 => ?_)
            refine N_iinc (a := x4.toInt) (c := 1) (fun w => [(2, .inl w), (1, .inl x22), (0, .inr (.inr (.inl 66)))]) rfl rfl (fun _ => rfl) (by decide) rfl (by decide) (by omega) (fun x25 q26 => ?_)
            refine R_goto 4 rfl rfl ?_
            have b27 := i_rng x22
            exact RUN_weak (psub_cons rfl (psub_cons rfl (psub_cons rfl (psub_nil _)))) (ih5 x22 x25 (by omega) (by omega) (by omega) (by omega))
  have k28 : (0 : Int32).toInt = 0 := by decide
  have k29 : (0 : Int32).toInt = 0 := by decide
  exact lp2 _ (0 : Int32) (0 : Int32) (by decide) (by decide) (by omega) (Nat.lt_succ_self _)
abbrev q_X8_count (h : PH) (a0 : Int32) : Option PV → PH → Prop := fun r h' => h = h' ∧ ∃ z : Int32, r = some (.inl z) ∧ ((True))
set_option maxHeartbeats 4000000 in
set_option maxRecDepth 100000 in
theorem k_X8_count (h : PH) (hI : INV h) (a0 : Int32) : CALL d_X8_count [.inr (.inr (.inl 0)), .inl a0] h (q_X8_count h a0) := by
  show RUN d_X8_count 0 [(0, .inr (.inr (.inl 0))), (1, .inl a0)] [] h _
  have b1 := i_rng a0
  refine R_iload_n (k := 1) rfl rfl rfl ?_
  refine N_if_lt (a := a0.toInt) 20 rfl rfl rfl (fun c2 => ?_) (fun c2 => ?_)
  · refine R_iload_n (k := 1) rfl rfl rfl ?_
    refine R_bipush 11 rfl rfl ?_
    refine N_icmp_ne (a := a0.toInt) (b := 11) 34 rfl rfl rfl (by decide) (fun c3 => ?_) (fun c3 => ?_)
    · refine R_iload_n (k := 1) rfl rfl rfl ?_
      refine R_bipush 12 rfl rfl ?_
      refine N_icmp_ne (a := a0.toInt) (b := 12) 50 rfl rfl rfl (by decide) (fun c4 => ?_) (fun c4 => ?_)
      · refine R_iconst (-1) rfl rfl ?_
        exact R_iret rfl rfl rfl ⟨rfl, _, rfl, trivial⟩
      · exfalso; omega
    · exfalso; omega
  · refine R_iload_n (k := 1) rfl rfl rfl ?_
    refine R_bipush 11 rfl rfl ?_
    refine N_icmp_ge (a := a0.toInt) (b := 11) 20 rfl rfl rfl (by decide) (fun c5 => ?_) (fun c5 => ?_)
    · refine R_iload_n (k := 1) rfl rfl rfl ?_
      refine R_bipush 11 rfl rfl ?_
      refine N_icmp_ne (a := a0.toInt) (b := 11) 34 rfl rfl rfl (by decide) (fun c6 => ?_) (fun c6 => ?_)
      · refine R_iload_n (k := 1) rfl rfl rfl ?_
        refine R_bipush 12 rfl rfl ?_
        refine N_icmp_ne (a := a0.toInt) (b := 12) 50 rfl rfl rfl (by decide) (fun c7 => ?_) (fun c7 => ?_)
        · refine R_iconst (-1) rfl rfl ?_
          exact R_iret rfl rfl rfl ⟨rfl, _, rfl, trivial⟩
        · refine R_aload_n (k := 0) rfl rfl rfl ?_
          refine R_getf_r (j := 6) rfl ft_8_42 sh_0 rfl ?_
          refine R_callV (v := .inr (.inr (.inl 66))) (As := []) (rest := []) rfl mt_8_i383 pp_X5_rowsThere (by decide) rfl rfl rfl (Nat.le_of_ble_eq_true rfl) (Nat.le_of_ble_eq_true rfl) ((k_X5_rowsThere h hI).mono (fun r8 h9 p10 => ?_))
          obtain ⟨rfl, x11, rfl, q12⟩ := p10
          show RUN d_X8_count 47 [(0, .inr (.inr (.inl 0))), (1, .inl a0)] [.inl x11] h _
          refine R_goto 51 rfl rfl ?_
          exact R_iret rfl rfl rfl ⟨rfl, _, rfl, trivial⟩
      · refine R_aload_n (k := 0) rfl rfl rfl ?_
        refine R_getf_r (j := 1) rfl ft_8_20 sh_0 rfl ?_
        refine R_getf_i (j := 1) rfl ft_8_94 sh_2 rfl ?_
        have b13 : (0 : Int) ≤ (h.1 2 1).toInt ∧ (h.1 2 1).toInt ≤ 500 := hI.1 2 1
        exact R_iret rfl rfl rfl ⟨rfl, _, rfl, trivial⟩
    · refine R_aload_n (k := 0) rfl rfl rfl ?_
      refine R_getf_r (j := 3) rfl ft_8_28 sh_0 rfl ?_
      refine R_getf_r (j := 0) rfl ft_8_109 sh_16 rfl ?_
      refine R_iload_n (k := 1) rfl rfl rfl ?_
      refine R_iald rfl sh_17 ⟨by omega, by omega⟩ ?_
      refine N_any (fun x14 => ?_)
      exact R_iret rfl rfl rfl ⟨rfl, _, rfl, trivial⟩
abbrev q_X9_count (h : PH) (a0 : Int32) : Option PV → PH → Prop := fun r h' => h = h' ∧ ∃ z : Int32, r = some (.inl z) ∧ ((True))
set_option maxHeartbeats 4000000 in
set_option maxRecDepth 100000 in
theorem k_X9_count (h : PH) (hI : INV h) (a0 : Int32) : CALL d_X9_count [.inr (.inr (.inl 96)), .inl a0] h (q_X9_count h a0) := by
  show RUN d_X9_count 0 [(0, .inr (.inr (.inl 96))), (1, .inl a0)] [] h _
  have b1 := i_rng a0
  refine R_iload_n (k := 1) rfl rfl rfl ?_
  refine N_i2l rfl (fun w2 q3 => ?_)
  refine R_lconst 0 rfl rfl ?_
  refine R_ldc2 (x := 10) rfl kt_9_514 ?_
  have k4 : (0 : Int64).toInt = 0 := by decide
  have k5 : (10 : Int64).toInt = 10 := by decide
  refine R_callS (As := [.inr (.inl w2), .inr (.inl 0), .inr (.inl 10)]) (rest := []) rfl mt_9_i125 (by decide) pp_X9_in (by decide) rfl rfl (Nat.le_of_ble_eq_true rfl) (Nat.le_of_ble_eq_true rfl) ((k_X9_in h hI w2 (0 : Int64) (10 : Int64)).mono (fun r6 h7 p8 => ?_))
  obtain ⟨rfl, x9, rfl, q10 | q10 | q10⟩ := p8
  · show RUN d_X9_count 9 [(0, .inr (.inr (.inl 96))), (1, .inl a0)] [.inl x9] h _
    refine N_if_eq (a := x9.toInt) 19 rfl rfl rfl (fun c11 => ?_) (fun c11 => ?_)
    · refine R_iload_n (k := 1) rfl rfl rfl ?_
      refine R_bipush 11 rfl rfl ?_
      refine N_icmp_ne (a := a0.toInt) (b := 11) 30 rfl rfl rfl (by decide) (fun c12 => ?_) (fun c12 => ?_)
      · refine R_iload_n (k := 1) rfl rfl rfl ?_
        refine R_bipush 12 rfl rfl ?_
        refine N_icmp_eq (a := a0.toInt) (b := 12) 38 rfl rfl rfl (by decide) (fun c13 => ?_) (fun c13 => ?_)
        · exfalso; omega
        · refine R_iconst (-1) rfl rfl ?_
          exact R_iret rfl rfl rfl ⟨rfl, _, rfl, trivial⟩
      · exfalso; omega
    · exfalso; omega
  · show RUN d_X9_count 9 [(0, .inr (.inr (.inl 96))), (1, .inl a0)] [.inl x9] h _
    refine N_if_eq (a := x9.toInt) 19 rfl rfl rfl (fun c14 => ?_) (fun c14 => ?_)
    · refine R_iload_n (k := 1) rfl rfl rfl ?_
      refine R_bipush 11 rfl rfl ?_
      refine N_icmp_ne (a := a0.toInt) (b := 11) 30 rfl rfl rfl (by decide) (fun c15 => ?_) (fun c15 => ?_)
      · refine R_iload_n (k := 1) rfl rfl rfl ?_
        refine R_bipush 12 rfl rfl ?_
        refine N_icmp_eq (a := a0.toInt) (b := 12) 38 rfl rfl rfl (by decide) (fun c16 => ?_) (fun c16 => ?_)
        · refine R_iconst 0 rfl rfl ?_
          refine R_istore_n (k := 2) rfl [(2, .inl 0), (0, .inr (.inr (.inl 96))), (1, .inl a0)] rfl rfl (by decide) ?_
          refine R_iconst 0 rfl rfl ?_
          refine R_istore_n (k := 3) rfl [(3, .inl 0), (2, .inl 0), (0, .inr (.inr (.inl 96))), (1, .inl a0)] rfl rfl (by decide) ?_
          have lp18 : ∀ (n17 : Nat) (x19 : Int32) (x20 : Int32), 0 ≤ x19.toInt ∧ x19.toInt ≤ 4 → 0 ≤ x20.toInt ∧ x20.toInt ≤ 4 → x19.toInt ≤ x20.toInt + 0 → a0.toInt ≤ x19.toInt + 12 → (4 - x20.toInt).toNat < n17 → RUN d_X9_count 42 [(3, .inl x20), (2, .inl x19), (0, .inr (.inr (.inl 96))), (1, .inl a0)] [] h (q_X9_count h a0) := by
            intro n17
            induction n17 with
            | zero => intro x19 x20 m22 m23 m24 m25 hz; exact absurd hz (Nat.not_lt_zero _)
            | succ n17 ih21 =>
              intro x19 x20 m22 m23 m24 m25 hz
              refine R_iload_n (k := 3) rfl rfl rfl ?_
              refine R_iconst 4 rfl rfl ?_
              refine N_icmp_ge (a := x20.toInt) (b := 4) 71 rfl rfl rfl (by decide) (fun c26 => ?_) (fun c26 => ?_)
              · refine R_iload_n (k := 2) rfl rfl rfl ?_
                exact R_iret rfl rfl rfl ⟨rfl, _, rfl, trivial⟩
              · refine R_iload_n (k := 2) rfl rfl rfl ?_
                refine R_aload_n (k := 0) rfl rfl rfl ?_
                refine R_getf_r (j := 57) rfl ft_9_107 sh_96 rfl ?_
                refine R_iload_n (k := 3) rfl rfl rfl ?_
                refine R_iald rfl sh_127 ⟨by omega, by omega⟩ ?_
                refine N_bd (lo := (-1)) (hi := 60) (hI.1 127 _) (fun x27 q28 => ?_)
                refine R_iconst (-1) rfl rfl ?_
                refine N_icmp_ne (a := x27.toInt) (b := (-1)) 62 rfl rfl rfl (by decide) (fun c29 => ?_) (fun c29 => ?_)
                · refine R_iconst 1 rfl rfl ?_
                  refine N_iadd (a := x19.toInt) (b := 1) rfl rfl (by decide) (by omega) (fun x30 q31 => ?_)
                  refine R_istore_n (k := 2) rfl [(2, .inl x30), (3, .inl x20), (0, .inr (.inr (.inl 96))), (1, .inl a0)] rfl rfl (by decide) ?_
                  refine N_iinc (a := x20.toInt) (c := 1) (fun w => [(3, .inl w), (2, .inl x30), (0, .inr (.inr (.inl 96))), (1, .inl a0)]) rfl rfl (fun _ => rfl) (by decide) rfl (by decide) (by omega) (fun x32 q33 => ?_)
                  refine R_goto 42 rfl rfl ?_
                  exact RUN_weak (psub_cons rfl (psub_cons rfl (psub_cons rfl (psub_cons rfl (psub_nil _))))) (ih21 x30 x32 (by omega) (by omega) (by omega) (by omega) (by omega))
                · refine R_iconst 0 rfl rfl ?_
                  refine R_goto 63 rfl rfl ?_
                  refine N_iadd (a := x19.toInt) (b := 0) rfl rfl (by decide) (by omega) (fun x34 q35 => ?_)
                  refine R_istore_n (k := 2) rfl [(2, .inl x34), (3, .inl x20), (0, .inr (.inr (.inl 96))), (1, .inl a0)] rfl rfl (by decide) ?_
                  refine N_iinc (a := x20.toInt) (c := 1) (fun w => [(3, .inl w), (2, .inl x34), (0, .inr (.inr (.inl 96))), (1, .inl a0)]) rfl rfl (fun _ => rfl) (by decide) rfl (by decide) (by omega) (fun x36 q37 => ?_)
                  refine R_goto 42 rfl rfl ?_
                  exact RUN_weak (psub_cons rfl (psub_cons rfl (psub_cons rfl (psub_cons rfl (psub_nil _))))) (ih21 x34 x36 (by omega) (by omega) (by omega) (by omega) (by omega))
          have k38 : (0 : Int32).toInt = 0 := by decide
          have k39 : (0 : Int32).toInt = 0 := by decide
          exact lp18 _ (0 : Int32) (0 : Int32) (by decide) (by decide) (by omega) (by omega) (Nat.lt_succ_self _)
        · refine R_iconst (-1) rfl rfl ?_
          exact R_iret rfl rfl rfl ⟨rfl, _, rfl, trivial⟩
      · refine R_aload_n (k := 0) rfl rfl rfl ?_
        refine R_getf_i (j := 5) rfl ft_9_136 sh_96 rfl ?_
        have b40 : (0 : Int) ≤ (h.1 96 5).toInt ∧ (h.1 96 5).toInt ≤ 500 := hI.1 96 5
        exact R_iret rfl rfl rfl ⟨rfl, _, rfl, trivial⟩
    · exfalso; omega
  · show RUN d_X9_count 9 [(0, .inr (.inr (.inl 96))), (1, .inl a0)] [.inl x9] h _
    refine N_if_eq (a := x9.toInt) 19 rfl rfl rfl (fun c41 => ?_) (fun c41 => ?_)
    · exfalso; omega
    · refine R_aload_n (k := 0) rfl rfl rfl ?_
      refine R_getf_r (j := 1) rfl ft_9_9 sh_96 rfl ?_
      refine R_iload_n (k := 1) rfl rfl rfl ?_
      refine R_iald rfl sh_97 ⟨by omega, by omega⟩ ?_
      refine N_any (fun x42 => ?_)
      exact R_iret rfl rfl rfl ⟨rfl, _, rfl, trivial⟩
abbrev q_X8_image (h : PH) (a0 : Int32) : Option PV → PH → Prop := fun r h' => INV h' ∧ FR [29, 30, 31, 32, 33, 34, 35, 36, 37, 38, 39, 41, 42, 43, 44, 45, 46, 47, 48, 49, 50, 51, 53, 54, 55, 56, 57, 58, 59, 60, 61, 62, 63, 65] h h' ∧ (True) ∧ ∃ z : Int32, r = some (.inl z) ∧ (((-2) ≤ z.toInt ∧ z.toInt ≤ 0))
set_option maxHeartbeats 4000000 in
set_option maxRecDepth 100000 in
theorem k_X8_image (h : PH) (hI : INV h) (a0 : Int32) : CALL d_X8_image [.inr (.inr (.inl 0)), .inl a0] h (q_X8_image h a0) := by
  show RUN d_X8_image 0 [(0, .inr (.inr (.inl 0))), (1, .inl a0)] [] h _
  have b1 := i_rng a0
  have fr : FR [29, 30, 31, 32, 33, 34, 35, 36, 37, 38, 39, 41, 42, 43, 44, 45, 46, 47, 48, 49, 50, 51, 53, 54, 55, 56, 57, 58, 59, 60, 61, 62, 63, 65] h h := FR.rf _ _
  refine R_iload_n (k := 1) rfl rfl rfl ?_
  refine N_if_lt (a := a0.toInt) 9 rfl rfl rfl (fun c2 => ?_) (fun c2 => ?_)
  · refine R_bipush (-2) rfl rfl ?_
    exact R_iret rfl rfl rfl ⟨hI, fr, trivial, _, rfl, by rw [show ((-2) : Int32).toInt = (-2) from rfl] <;> omega⟩
  · refine R_iload_n (k := 1) rfl rfl rfl ?_
    refine R_iconst 3 rfl rfl ?_
    refine N_icmp_lt (a := a0.toInt) (b := 3) 12 rfl rfl rfl (by decide) (fun c3 => ?_) (fun c3 => ?_)
    · refine R_aload_n (k := 0) rfl rfl rfl ?_
      refine R_getf_r (j := 4) rfl ft_8_31 sh_0 rfl ?_
      refine R_iload_n (k := 1) rfl rfl rfl ?_
      rcases (show a0.toInt = 0 ∨ a0.toInt = 1 ∨ a0.toInt = 2 by omega) with c4 | c4 | c4
      · refine R_aald 28 rfl sh_64 ⟨by omega, by show a0.toInt < (3 : Int); omega⟩ (by rw [tnc (n := 0) c4]; rfl) ?_
        refine R_aload_n (k := 0) rfl rfl rfl ?_
        refine R_getf_r (j := 3) rfl ft_8_28 sh_0 rfl ?_
        refine R_callV (v := .inr (.inr (.inl 28))) (As := [.inr (.inr (.inl 16))]) (rest := []) rfl mt_8_i102 pp_X1_copyFrom (by decide) rfl rfl rfl (Nat.le_of_ble_eq_true rfl) (Nat.le_of_ble_eq_true rfl) ((k_X1_copyFrom_1 h hI).mono (fun r5 h6 p7 => ?_))
        obtain ⟨hJ, fj, -, rfl⟩ := p7
        have f8 := fj
        have fr := fr.trans fj (by decide)
        have hI := hJ
        show RUN d_X8_image 25 [(0, .inr (.inr (.inl 0))), (1, .inl a0)] [] h6 _
        refine R_aload_n (k := 0) rfl rfl rfl ?_
        refine R_getf_r (j := 5) rfl ft_8_35 sh_0 rfl ?_
        refine R_iload_n (k := 1) rfl rfl rfl ?_
        refine R_iconst 1 rfl rfl ?_
        refine K_zast (a := a0.toInt) rfl sh_65 rfl ⟨by omega, by omega⟩ hI (by decide) rfl fr (by decide) (fun h9 g10 hI fr => ?_)
        refine R_iconst 0 rfl rfl ?_
        exact R_iret rfl rfl rfl ⟨hI, fr, trivial, _, rfl, by rw [show (0 : Int32).toInt = 0 from rfl] <;> omega⟩
      · refine R_aald 40 rfl sh_64 ⟨by omega, by show a0.toInt < (3 : Int); omega⟩ (by rw [tnc (n := 1) c4]; rfl) ?_
        refine R_aload_n (k := 0) rfl rfl rfl ?_
        refine R_getf_r (j := 3) rfl ft_8_28 sh_0 rfl ?_
        refine R_callV (v := .inr (.inr (.inl 40))) (As := [.inr (.inr (.inl 16))]) (rest := []) rfl mt_8_i102 pp_X1_copyFrom (by decide) rfl rfl rfl (Nat.le_of_ble_eq_true rfl) (Nat.le_of_ble_eq_true rfl) ((k_X1_copyFrom_2 h hI).mono (fun r11 h12 p13 => ?_))
        obtain ⟨hJ, fj, -, rfl⟩ := p13
        have f14 := fj
        have fr := fr.trans fj (by decide)
        have hI := hJ
        show RUN d_X8_image 25 [(0, .inr (.inr (.inl 0))), (1, .inl a0)] [] h12 _
        refine R_aload_n (k := 0) rfl rfl rfl ?_
        refine R_getf_r (j := 5) rfl ft_8_35 sh_0 rfl ?_
        refine R_iload_n (k := 1) rfl rfl rfl ?_
        refine R_iconst 1 rfl rfl ?_
        refine K_zast (a := a0.toInt) rfl sh_65 rfl ⟨by omega, by omega⟩ hI (by decide) rfl fr (by decide) (fun h15 g16 hI fr => ?_)
        refine R_iconst 0 rfl rfl ?_
        exact R_iret rfl rfl rfl ⟨hI, fr, trivial, _, rfl, by rw [show (0 : Int32).toInt = 0 from rfl] <;> omega⟩
      · refine R_aald 52 rfl sh_64 ⟨by omega, by show a0.toInt < (3 : Int); omega⟩ (by rw [tnc (n := 2) c4]; rfl) ?_
        refine R_aload_n (k := 0) rfl rfl rfl ?_
        refine R_getf_r (j := 3) rfl ft_8_28 sh_0 rfl ?_
        refine R_callV (v := .inr (.inr (.inl 52))) (As := [.inr (.inr (.inl 16))]) (rest := []) rfl mt_8_i102 pp_X1_copyFrom (by decide) rfl rfl rfl (Nat.le_of_ble_eq_true rfl) (Nat.le_of_ble_eq_true rfl) ((k_X1_copyFrom_3 h hI).mono (fun r17 h18 p19 => ?_))
        obtain ⟨hJ, fj, -, rfl⟩ := p19
        have f20 := fj
        have fr := fr.trans fj (by decide)
        have hI := hJ
        show RUN d_X8_image 25 [(0, .inr (.inr (.inl 0))), (1, .inl a0)] [] h18 _
        refine R_aload_n (k := 0) rfl rfl rfl ?_
        refine R_getf_r (j := 5) rfl ft_8_35 sh_0 rfl ?_
        refine R_iload_n (k := 1) rfl rfl rfl ?_
        refine R_iconst 1 rfl rfl ?_
        refine K_zast (a := a0.toInt) rfl sh_65 rfl ⟨by omega, by omega⟩ hI (by decide) rfl fr (by decide) (fun h21 g22 hI fr => ?_)
        refine R_iconst 0 rfl rfl ?_
        exact R_iret rfl rfl rfl ⟨hI, fr, trivial, _, rfl, by rw [show (0 : Int32).toInt = 0 from rfl] <;> omega⟩
    · refine R_bipush (-2) rfl rfl ?_
      exact R_iret rfl rfl rfl ⟨hI, fr, trivial, _, rfl, by rw [show ((-2) : Int32).toInt = (-2) from rfl] <;> omega⟩
abbrev q_X8_back (h : PH) (a0 : Int32) : Option PV → PH → Prop := fun r h' => INV h' ∧ FR [0, 17, 18, 19, 20, 21, 22, 23, 24, 25, 26, 27] h h' ∧ (True) ∧ ∃ z : Int32, r = some (.inl z) ∧ (((-6) ≤ z.toInt ∧ z.toInt ≤ 0))
set_option maxHeartbeats 4000000 in
set_option maxRecDepth 100000 in
theorem k_X8_back (h : PH) (hI : INV h) (a0 : Int32) : CALL d_X8_back [.inr (.inr (.inl 0)), .inl a0] h (q_X8_back h a0) := by
  show RUN d_X8_back 0 [(0, .inr (.inr (.inl 0))), (1, .inl a0)] [] h _
  have b1 := i_rng a0
  have fr : FR [0, 17, 18, 19, 20, 21, 22, 23, 24, 25, 26, 27] h h := FR.rf _ _
  refine R_iload_n (k := 1) rfl rfl rfl ?_
  refine N_if_lt (a := a0.toInt) 9 rfl rfl rfl (fun c2 => ?_) (fun c2 => ?_)
  · refine R_bipush (-2) rfl rfl ?_
    exact R_iret rfl rfl rfl ⟨hI, fr, trivial, _, rfl, by rw [show ((-2) : Int32).toInt = (-2) from rfl] <;> omega⟩
  · refine R_iload_n (k := 1) rfl rfl rfl ?_
    refine R_iconst 3 rfl rfl ?_
    refine N_icmp_lt (a := a0.toInt) (b := 3) 12 rfl rfl rfl (by decide) (fun c3 => ?_) (fun c3 => ?_)
    · refine R_aload_n (k := 0) rfl rfl rfl ?_
      refine R_getf_r (j := 5) rfl ft_8_35 sh_0 rfl ?_
      refine R_iload_n (k := 1) rfl rfl rfl ?_
      refine R_zald rfl sh_65 ⟨by omega, by omega⟩ ?_
      refine N_any (fun x4 => ?_)
      refine N_if_ne (a := x4.toInt) 24 rfl rfl rfl (fun c5 => ?_) (fun c5 => ?_)
      · refine R_aload_n (k := 0) rfl rfl rfl ?_
        refine R_getf_r (j := 3) rfl ft_8_28 sh_0 rfl ?_
        refine R_aload_n (k := 0) rfl rfl rfl ?_
        refine R_getf_r (j := 4) rfl ft_8_31 sh_0 rfl ?_
        refine R_iload_n (k := 1) rfl rfl rfl ?_
        rcases (show a0.toInt = 0 ∨ a0.toInt = 1 ∨ a0.toInt = 2 by omega) with c6 | c6 | c6
        · refine R_aald 28 rfl sh_64 ⟨by omega, by show a0.toInt < (3 : Int); omega⟩ (by rw [tnc (n := 0) c6]; rfl) ?_
          refine R_callV (v := .inr (.inr (.inl 16))) (As := [.inr (.inr (.inl 28))]) (rest := []) rfl mt_8_i102 pp_X1_copyFrom (by decide) rfl rfl rfl (Nat.le_of_ble_eq_true rfl) (Nat.le_of_ble_eq_true rfl) ((k_X1_copyFrom_4 h hI).mono (fun r7 h8 p9 => ?_))
          obtain ⟨hJ, fj, -, rfl⟩ := p9
          have f10 := fj
          have fr := fr.trans fj (by decide)
          have hI := hJ
          show RUN d_X8_back 37 [(0, .inr (.inr (.inl 0))), (1, .inl a0)] [] h8 _
          refine R_aload_n (k := 0) rfl rfl rfl ?_
          refine R_callV (v := .inr (.inr (.inl 0))) (As := []) (rest := []) rfl mt_8_i106 pp_X8_forgetAll (by decide) rfl rfl rfl (Nat.le_of_ble_eq_true rfl) (Nat.le_of_ble_eq_true rfl) ((k_X8_forgetAll h8 hI).mono (fun r11 h12 p13 => ?_))
          obtain ⟨hJ, fj, -, rfl⟩ := p13
          have f14 := fj
          have fr := fr.trans fj (by decide)
          have hI := hJ
          show RUN d_X8_back 41 [(0, .inr (.inr (.inl 0))), (1, .inl a0)] [] h12 _
          refine R_iconst 0 rfl rfl ?_
          exact R_iret rfl rfl rfl ⟨hI, fr, trivial, _, rfl, by rw [show (0 : Int32).toInt = 0 from rfl] <;> omega⟩
        · refine R_aald 40 rfl sh_64 ⟨by omega, by show a0.toInt < (3 : Int); omega⟩ (by rw [tnc (n := 1) c6]; rfl) ?_
          refine R_callV (v := .inr (.inr (.inl 16))) (As := [.inr (.inr (.inl 40))]) (rest := []) rfl mt_8_i102 pp_X1_copyFrom (by decide) rfl rfl rfl (Nat.le_of_ble_eq_true rfl) (Nat.le_of_ble_eq_true rfl) ((k_X1_copyFrom_5 h hI).mono (fun r15 h16 p17 => ?_))
          obtain ⟨hJ, fj, -, rfl⟩ := p17
          have f18 := fj
          have fr := fr.trans fj (by decide)
          have hI := hJ
          show RUN d_X8_back 37 [(0, .inr (.inr (.inl 0))), (1, .inl a0)] [] h16 _
          refine R_aload_n (k := 0) rfl rfl rfl ?_
          refine R_callV (v := .inr (.inr (.inl 0))) (As := []) (rest := []) rfl mt_8_i106 pp_X8_forgetAll (by decide) rfl rfl rfl (Nat.le_of_ble_eq_true rfl) (Nat.le_of_ble_eq_true rfl) ((k_X8_forgetAll h16 hI).mono (fun r19 h20 p21 => ?_))
          obtain ⟨hJ, fj, -, rfl⟩ := p21
          have f22 := fj
          have fr := fr.trans fj (by decide)
          have hI := hJ
          show RUN d_X8_back 41 [(0, .inr (.inr (.inl 0))), (1, .inl a0)] [] h20 _
          refine R_iconst 0 rfl rfl ?_
          exact R_iret rfl rfl rfl ⟨hI, fr, trivial, _, rfl, by rw [show (0 : Int32).toInt = 0 from rfl] <;> omega⟩
        · refine R_aald 52 rfl sh_64 ⟨by omega, by show a0.toInt < (3 : Int); omega⟩ (by rw [tnc (n := 2) c6]; rfl) ?_
          refine R_callV (v := .inr (.inr (.inl 16))) (As := [.inr (.inr (.inl 52))]) (rest := []) rfl mt_8_i102 pp_X1_copyFrom (by decide) rfl rfl rfl (Nat.le_of_ble_eq_true rfl) (Nat.le_of_ble_eq_true rfl) ((k_X1_copyFrom_6 h hI).mono (fun r23 h24 p25 => ?_))
          obtain ⟨hJ, fj, -, rfl⟩ := p25
          have f26 := fj
          have fr := fr.trans fj (by decide)
          have hI := hJ
          show RUN d_X8_back 37 [(0, .inr (.inr (.inl 0))), (1, .inl a0)] [] h24 _
          refine R_aload_n (k := 0) rfl rfl rfl ?_
          refine R_callV (v := .inr (.inr (.inl 0))) (As := []) (rest := []) rfl mt_8_i106 pp_X8_forgetAll (by decide) rfl rfl rfl (Nat.le_of_ble_eq_true rfl) (Nat.le_of_ble_eq_true rfl) ((k_X8_forgetAll h24 hI).mono (fun r27 h28 p29 => ?_))
          obtain ⟨hJ, fj, -, rfl⟩ := p29
          have f30 := fj
          have fr := fr.trans fj (by decide)
          have hI := hJ
          show RUN d_X8_back 41 [(0, .inr (.inr (.inl 0))), (1, .inl a0)] [] h28 _
          refine R_iconst 0 rfl rfl ?_
          exact R_iret rfl rfl rfl ⟨hI, fr, trivial, _, rfl, by rw [show (0 : Int32).toInt = 0 from rfl] <;> omega⟩
      · refine R_bipush (-6) rfl rfl ?_
        exact R_iret rfl rfl rfl ⟨hI, fr, trivial, _, rfl, by rw [show ((-6) : Int32).toInt = (-6) from rfl] <;> omega⟩
    · refine R_bipush (-2) rfl rfl ?_
      exact R_iret rfl rfl rfl ⟨hI, fr, trivial, _, rfl, by rw [show ((-2) : Int32).toInt = (-2) from rfl] <;> omega⟩
abbrev q_X5_makeRow (h : PH) (a0 : Int32) (a1 : Int32) (a2 : Int32) : Option PV → PH → Prop := fun r h' => INV h' ∧ FR [67, 68, 69] h h' ∧ (True) ∧ r = none
set_option maxHeartbeats 4000000 in
set_option maxRecDepth 100000 in
theorem k_X5_makeRow (h : PH) (hI : INV h) (a0 : Int32) (a1 : Int32) (a2 : Int32) (h0a : 0 ≤ a0.toInt ∧ a0.toInt ≤ 3) (h1a : 0 ≤ a1.toInt ∧ a1.toInt ≤ 3) (h2a : 0 ≤ a2.toInt ∧ a2.toInt ≤ 60) : CALL d_X5_makeRow [.inr (.inr (.inl 66)), .inl a0, .inl a1, .inl a2] h (q_X5_makeRow h a0 a1 a2) := by
  show RUN d_X5_makeRow 0 [(0, .inr (.inr (.inl 66))), (1, .inl a0), (2, .inl a1), (3, .inl a2)] [] h _
  have fr : FR [67, 68, 69] h h := FR.rf _ _
  refine R_aload_n (k := 0) rfl rfl rfl ?_
  refine R_getf_r (j := 2) rfl ft_5_19 sh_66 rfl ?_
  refine R_iload_n (k := 1) rfl rfl rfl ?_
  refine R_iload_n (k := 2) rfl rfl rfl ?_
  refine K_iast (a := a0.toInt) (lo := (-2147483648)) (hi' := 2147483647) rfl sh_69 rfl ⟨by omega, by omega⟩ hI (by decide) rfl (i_rng _) fr (by decide) (fun h1 g2 hI fr => ?_)
  refine R_aload_n (k := 0) rfl rfl rfl ?_
  refine R_getf_r (j := 1) rfl ft_5_15 sh_66 rfl ?_
  refine R_iload_n (k := 1) rfl rfl rfl ?_
  refine R_iload_n (k := 3) rfl rfl rfl ?_
  refine K_iast (a := a0.toInt) (lo := (-1)) (hi' := 60) rfl sh_68 rfl ⟨by omega, by omega⟩ hI (by decide) rfl (by omega) fr (by decide) (fun h3 g4 hI fr => ?_)
  refine R_iconst 0 rfl rfl ?_
  refine R_istore (k := 4) [(4, .inl 0), (0, .inr (.inr (.inl 66))), (1, .inl a0), (2, .inl a1), (3, .inl a2)] rfl rfl (by decide) ?_
  have lp6 : ∀ (n5 : Nat) (h7 : PH) (x9 : Int32), INV h7 → FR [67, 68, 69] h h7 → FR [67] h3 h7 → 0 ≤ x9.toInt ∧ x9.toInt ≤ 60 → (60 - x9.toInt).toNat < n5 → RUN d_X5_makeRow 17 [(4, .inl x9), (0, .inr (.inr (.inl 66))), (1, .inl a0), (2, .inl a1), (3, .inl a2)] [] h7 (q_X5_makeRow h a0 a1 a2) := by
    intro n5
    induction n5 with
    | zero => intro h7 x9 m11 m12 m13 m14 hz; exact absurd hz (Nat.not_lt_zero _)
    | succ n5 ih10 =>
      intro h7 x9 hI fr fl8 m14 hz
      refine R_iload (k := 4) rfl rfl ?_
      refine R_bipush 60 rfl rfl ?_
      refine N_icmp_ge (a := x9.toInt) (b := 60) 43 rfl rfl rfl (by decide) (fun c15 => ?_) (fun c15 => ?_)
      · exact R_vret rfl rfl ⟨hI, fr, trivial, rfl⟩
      · refine R_aload_n (k := 0) rfl rfl rfl ?_
        refine R_getf_r (j := 0) rfl ft_5_11 sh_66 rfl ?_
        refine R_iload_n (k := 1) rfl rfl rfl ?_
        refine R_bipush 60 rfl rfl ?_
        refine N_imul (a := a0.toInt) (b := 60) rfl rfl (by decide) (by omega) (fun x16 q17 => ?_)
        refine R_iload (k := 4) rfl rfl ?_
        refine N_iadd (a := x16.toInt) (b := x9.toInt) rfl rfl rfl (by omega) (fun x18 q19 => ?_)
        refine R_lconst 0 rfl rfl ?_
        refine K_last (a := x18.toInt) rfl sh_67 rfl ⟨by omega, by omega⟩ hI fr (by decide) (fun h20 g21 hI fr => ?_)
        have fl8 : FR [67] h3 h20 := by rw [g21]; exact FR_wL _ _ fl8 (by decide)
        refine N_iinc (a := x9.toInt) (c := 1) (fun w => [(4, .inl w), (0, .inr (.inr (.inl 66))), (1, .inl a0), (2, .inl a1), (3, .inl a2)]) rfl rfl (fun _ => rfl) (by decide) rfl (by decide) (by omega) (fun x22 q23 => ?_)
        refine R_goto 17 rfl rfl ?_
        exact RUN_weak (psub_cons rfl (psub_cons rfl (psub_cons rfl (psub_cons rfl (psub_cons rfl (psub_nil _)))))) (ih10 h20 x22 hI fr fl8 (by omega) (by omega))
  exact lp6 _ h3 (0 : Int32) hI fr (FR.rf _ _) (by decide) (Nat.lt_succ_self _)
abbrev q_X8_row (h : PH) (a0 : Int32) (a1 : Int32) (a2 : Int32) : Option PV → PH → Prop := fun r h' => INV h' ∧ FR [67, 68, 69] h h' ∧ (True) ∧ ∃ z : Int32, r = some (.inl z) ∧ (((-3) ≤ z.toInt ∧ z.toInt ≤ 0))
set_option maxHeartbeats 4000000 in
set_option maxRecDepth 100000 in
theorem k_X8_row (h : PH) (hI : INV h) (a0 : Int32) (a1 : Int32) (a2 : Int32) : CALL d_X8_row [.inr (.inr (.inl 0)), .inl a0, .inl a1, .inl a2] h (q_X8_row h a0 a1 a2) := by
  show RUN d_X8_row 0 [(0, .inr (.inr (.inl 0))), (1, .inl a0), (2, .inl a1), (3, .inl a2)] [] h _
  have b1 := i_rng a0
  have b2 := i_rng a1
  have b3 := i_rng a2
  have fr : FR [67, 68, 69] h h := FR.rf _ _
  refine R_aload_n (k := 0) rfl rfl rfl ?_
  refine R_getf_r (j := 6) rfl ft_8_42 sh_0 rfl ?_
  refine R_iload_n (k := 1) rfl rfl rfl ?_
  refine R_callV (v := .inr (.inr (.inl 66))) (As := [.inl a0]) (rest := []) rfl mt_8_i386 pp_X5_isSlot (by decide) rfl rfl rfl (Nat.le_of_ble_eq_true rfl) (Nat.le_of_ble_eq_true rfl) ((k_X5_isSlot h hI a0).mono (fun r4 h5 p6 => ?_))
  obtain ⟨rfl, x7, rfl, q8 | q8 | q8⟩ := p6
  · show RUN d_X8_row 8 [(0, .inr (.inr (.inl 0))), (1, .inl a0), (2, .inl a1), (3, .inl a2)] [.inl x7] h _
    refine N_if_eq (a := x7.toInt) 26 rfl rfl rfl (fun c9 => ?_) (fun c9 => ?_)
    · refine R_bipush (-2) rfl rfl ?_
      exact R_iret rfl rfl rfl ⟨hI, fr, trivial, _, rfl, by rw [show ((-2) : Int32).toInt = (-2) from rfl] <;> omega⟩
    · exfalso; omega
  · show RUN d_X8_row 8 [(0, .inr (.inr (.inl 0))), (1, .inl a0), (2, .inl a1), (3, .inl a2)] [.inl x7] h _
    refine N_if_eq (a := x7.toInt) 26 rfl rfl rfl (fun c10 => ?_) (fun c10 => ?_)
    · refine R_bipush (-2) rfl rfl ?_
      exact R_iret rfl rfl rfl ⟨hI, fr, trivial, _, rfl, by rw [show ((-2) : Int32).toInt = (-2) from rfl] <;> omega⟩
    · exfalso; omega
  · show RUN d_X8_row 8 [(0, .inr (.inr (.inl 0))), (1, .inl a0), (2, .inl a1), (3, .inl a2)] [.inl x7] h _
    refine N_if_eq (a := x7.toInt) 26 rfl rfl rfl (fun c11 => ?_) (fun c11 => ?_)
    · exfalso; omega
    · refine R_iload_n (k := 2) rfl rfl rfl ?_
      refine N_if_lt (a := a1.toInt) 26 rfl rfl rfl (fun c12 => ?_) (fun c12 => ?_)
      · refine R_bipush (-2) rfl rfl ?_
        exact R_iret rfl rfl rfl ⟨hI, fr, trivial, _, rfl, by rw [show ((-2) : Int32).toInt = (-2) from rfl] <;> omega⟩
      · refine R_iload_n (k := 2) rfl rfl rfl ?_
        refine R_iconst 3 rfl rfl ?_
        refine N_icmp_gt (a := a1.toInt) (b := 3) 26 rfl rfl rfl (by decide) (fun c13 => ?_) (fun c13 => ?_)
        · refine R_bipush (-2) rfl rfl ?_
          exact R_iret rfl rfl rfl ⟨hI, fr, trivial, _, rfl, by rw [show ((-2) : Int32).toInt = (-2) from rfl] <;> omega⟩
        · refine R_iload_n (k := 3) rfl rfl rfl ?_
          refine R_bipush 60 rfl rfl ?_
          refine N_icmp_le (a := a2.toInt) (b := 60) 29 rfl rfl rfl (by decide) (fun c14 => ?_) (fun c14 => ?_)
          · refine R_iload_n (k := 3) rfl rfl rfl ?_
            refine N_if_ge (a := a2.toInt) 36 rfl rfl rfl (fun c15 => ?_) (fun c15 => ?_)
            · refine R_aload_n (k := 0) rfl rfl rfl ?_
              refine R_getf_r (j := 6) rfl ft_8_42 sh_0 rfl ?_
              refine R_iload_n (k := 1) rfl rfl rfl ?_
              refine R_iload_n (k := 2) rfl rfl rfl ?_
              refine R_iload_n (k := 3) rfl rfl rfl ?_
              refine R_callV (v := .inr (.inr (.inl 66))) (As := [.inl a0, .inl a1, .inl a2]) (rest := []) rfl mt_8_i389 pp_X5_makeRow (by decide) rfl rfl rfl (Nat.le_of_ble_eq_true rfl) (Nat.le_of_ble_eq_true rfl) ((k_X5_makeRow h hI a0 a1 a2 (by omega) (by omega) (by omega)).mono (fun r16 h17 p18 => ?_))
              obtain ⟨hJ, fj, -, rfl⟩ := p18
              have f19 := fj
              have fr := fr.trans fj (by decide)
              have hI := hJ
              show RUN d_X8_row 46 [(0, .inr (.inr (.inl 0))), (1, .inl a0), (2, .inl a1), (3, .inl a2)] [] h17 _
              refine R_iconst 0 rfl rfl ?_
              exact R_iret rfl rfl rfl ⟨hI, fr, trivial, _, rfl, by rw [show (0 : Int32).toInt = 0 from rfl] <;> omega⟩
            · refine R_bipush (-3) rfl rfl ?_
              exact R_iret rfl rfl rfl ⟨hI, fr, trivial, _, rfl, by rw [show ((-3) : Int32).toInt = (-3) from rfl] <;> omega⟩
          · refine R_bipush (-2) rfl rfl ?_
            exact R_iret rfl rfl rfl ⟨hI, fr, trivial, _, rfl, by rw [show ((-2) : Int32).toInt = (-2) from rfl] <;> omega⟩
abbrev q_X9_row (h : PH) (a0 : Int32) (a1 : Int32) (a2 : Int32) : Option PV → PH → Prop := fun r h' => INV h' ∧ FR [127, 128, 129] h h' ∧ (True) ∧ ∃ z : Int32, r = some (.inl z) ∧ (((-3) ≤ z.toInt ∧ z.toInt ≤ 0))
set_option maxHeartbeats 4000000 in
set_option maxRecDepth 100000 in
theorem k_X9_row (h : PH) (hI : INV h) (a0 : Int32) (a1 : Int32) (a2 : Int32) : CALL d_X9_row [.inr (.inr (.inl 96)), .inl a0, .inl a1, .inl a2] h (q_X9_row h a0 a1 a2) := by
  show RUN d_X9_row 0 [(0, .inr (.inr (.inl 96))), (1, .inl a0), (2, .inl a1), (3, .inl a2)] [] h _
  have b1 := i_rng a0
  have b2 := i_rng a1
  have b3 := i_rng a2
  have fr : FR [127, 128, 129] h h := FR.rf _ _
  refine R_iload_n (k := 1) rfl rfl rfl ?_
  refine R_callS (As := [.inl a0]) (rest := []) rfl mt_9_i440 (by decide) pp_X9_isSlot (by decide) rfl rfl (Nat.le_of_ble_eq_true rfl) (Nat.le_of_ble_eq_true rfl) ((k_X9_isSlot h hI a0).mono (fun r4 h5 p6 => ?_))
  obtain ⟨rfl, x7, rfl, q8 | q8 | q8⟩ := p6
  · show RUN d_X9_row 4 [(0, .inr (.inr (.inl 96))), (1, .inl a0), (2, .inl a1), (3, .inl a2)] [.inl x7] h _
    refine N_if_eq (a := x7.toInt) 25 rfl rfl rfl (fun c9 => ?_) (fun c9 => ?_)
    · refine R_bipush (-2) rfl rfl ?_
      exact R_iret rfl rfl rfl ⟨hI, fr, trivial, _, rfl, by rw [show ((-2) : Int32).toInt = (-2) from rfl] <;> omega⟩
    · exfalso; omega
  · show RUN d_X9_row 4 [(0, .inr (.inr (.inl 96))), (1, .inl a0), (2, .inl a1), (3, .inl a2)] [.inl x7] h _
    refine N_if_eq (a := x7.toInt) 25 rfl rfl rfl (fun c10 => ?_) (fun c10 => ?_)
    · refine R_bipush (-2) rfl rfl ?_
      exact R_iret rfl rfl rfl ⟨hI, fr, trivial, _, rfl, by rw [show ((-2) : Int32).toInt = (-2) from rfl] <;> omega⟩
    · exfalso; omega
  · show RUN d_X9_row 4 [(0, .inr (.inr (.inl 96))), (1, .inl a0), (2, .inl a1), (3, .inl a2)] [.inl x7] h _
    refine N_if_eq (a := x7.toInt) 25 rfl rfl rfl (fun c11 => ?_) (fun c11 => ?_)
    · exfalso; omega
    · refine R_iload_n (k := 2) rfl rfl rfl ?_
      refine N_i2l rfl (fun w12 q13 => ?_)
      refine R_lconst 0 rfl rfl ?_
      refine R_ldc2 (x := 3) rfl kt_9_529 ?_
      have k14 : (0 : Int64).toInt = 0 := by decide
      have k15 : (3 : Int64).toInt = 3 := by decide
      refine R_callS (As := [.inr (.inl w12), .inr (.inl 0), .inr (.inl 3)]) (rest := []) rfl mt_9_i125 (by decide) pp_X9_in (by decide) rfl rfl (Nat.le_of_ble_eq_true rfl) (Nat.le_of_ble_eq_true rfl) ((k_X9_in h hI w12 (0 : Int64) (3 : Int64)).mono (fun r16 h17 p18 => ?_))
      obtain ⟨rfl, x19, rfl, q20 | q20 | q20⟩ := p18
      · show RUN d_X9_row 16 [(0, .inr (.inr (.inl 96))), (1, .inl a0), (2, .inl a1), (3, .inl a2)] [.inl x19] h _
        refine N_if_eq (a := x19.toInt) 25 rfl rfl rfl (fun c21 => ?_) (fun c21 => ?_)
        · refine R_bipush (-2) rfl rfl ?_
          exact R_iret rfl rfl rfl ⟨hI, fr, trivial, _, rfl, by rw [show ((-2) : Int32).toInt = (-2) from rfl] <;> omega⟩
        · exfalso; omega
      · show RUN d_X9_row 16 [(0, .inr (.inr (.inl 96))), (1, .inl a0), (2, .inl a1), (3, .inl a2)] [.inl x19] h _
        refine N_if_eq (a := x19.toInt) 25 rfl rfl rfl (fun c22 => ?_) (fun c22 => ?_)
        · refine R_bipush (-2) rfl rfl ?_
          exact R_iret rfl rfl rfl ⟨hI, fr, trivial, _, rfl, by rw [show ((-2) : Int32).toInt = (-2) from rfl] <;> omega⟩
        · exfalso; omega
      · show RUN d_X9_row 16 [(0, .inr (.inr (.inl 96))), (1, .inl a0), (2, .inl a1), (3, .inl a2)] [.inl x19] h _
        refine N_if_eq (a := x19.toInt) 25 rfl rfl rfl (fun c23 => ?_) (fun c23 => ?_)
        · exfalso; omega
        · refine R_iload_n (k := 3) rfl rfl rfl ?_
          refine R_bipush 60 rfl rfl ?_
          refine N_icmp_le (a := a2.toInt) (b := 60) 28 rfl rfl rfl (by decide) (fun c24 => ?_) (fun c24 => ?_)
          · refine R_iload_n (k := 3) rfl rfl rfl ?_
            refine N_if_ge (a := a2.toInt) 35 rfl rfl rfl (fun c25 => ?_) (fun c25 => ?_)
            · refine R_aload_n (k := 0) rfl rfl rfl ?_
              refine R_getf_r (j := 57) rfl ft_9_107 sh_96 rfl ?_
              refine R_iload_n (k := 1) rfl rfl rfl ?_
              refine R_iload_n (k := 3) rfl rfl rfl ?_
              refine K_iast (a := a0.toInt) (lo := (-1)) (hi' := 60) rfl sh_127 rfl ⟨by omega, by omega⟩ hI (by decide) rfl (by omega) fr (by decide) (fun h26 g27 hI fr => ?_)
              refine R_aload_n (k := 0) rfl rfl rfl ?_
              refine R_getf_r (j := 58) rfl ft_9_110 sh_96 rfl ?_
              refine R_iload_n (k := 1) rfl rfl rfl ?_
              refine R_iload_n (k := 2) rfl rfl rfl ?_
              refine K_iast (a := a0.toInt) (lo := (-2147483648)) (hi' := 2147483647) rfl sh_128 rfl ⟨by omega, by omega⟩ hI (by decide) rfl (i_rng _) fr (by decide) (fun h28 g29 hI fr => ?_)
              refine R_iconst 0 rfl rfl ?_
              refine R_istore (k := 4) [(4, .inl 0), (0, .inr (.inr (.inl 96))), (1, .inl a0), (2, .inl a1), (3, .inl a2)] rfl rfl (by decide) ?_
              have lp31 : ∀ (n30 : Nat) (h32 : PH) (x34 : Int32), INV h32 → FR [127, 128, 129] h h32 → FR [129] h28 h32 → 0 ≤ x34.toInt ∧ x34.toInt ≤ 60 → (60 - x34.toInt).toNat < n30 → RUN d_X9_row 52 [(4, .inl x34), (0, .inr (.inr (.inl 96))), (1, .inl a0), (2, .inl a1), (3, .inl a2)] [] h32 (q_X9_row h a0 a1 a2) := by
                intro n30
                induction n30 with
                | zero => intro h32 x34 m36 m37 m38 m39 hz; exact absurd hz (Nat.not_lt_zero _)
                | succ n30 ih35 =>
                  intro h32 x34 hI fr fl33 m39 hz
                  refine R_iload (k := 4) rfl rfl ?_
                  refine R_bipush 60 rfl rfl ?_
                  refine N_icmp_ge (a := x34.toInt) (b := 60) 78 rfl rfl rfl (by decide) (fun c40 => ?_) (fun c40 => ?_)
                  · refine R_iconst 0 rfl rfl ?_
                    exact R_iret rfl rfl rfl ⟨hI, fr, trivial, _, rfl, by rw [show (0 : Int32).toInt = 0 from rfl] <;> omega⟩
                  · refine R_aload_n (k := 0) rfl rfl rfl ?_
                    refine R_getf_r (j := 59) rfl ft_9_113 sh_96 rfl ?_
                    refine R_bipush 60 rfl rfl ?_
                    refine R_iload_n (k := 1) rfl rfl rfl ?_
                    refine N_imul (a := 60) (b := a0.toInt) rfl (by decide) rfl (by omega) (fun x41 q42 => ?_)
                    refine R_iload (k := 4) rfl rfl ?_
                    refine N_iadd (a := x41.toInt) (b := x34.toInt) rfl rfl rfl (by omega) (fun x43 q44 => ?_)
                    refine R_lconst 0 rfl rfl ?_
                    refine K_last (a := x43.toInt) rfl sh_129 rfl ⟨by omega, by omega⟩ hI fr (by decide) (fun h45 g46 hI fr => ?_)
                    have fl33 : FR [129] h28 h45 := by rw [g46]; exact FR_wL _ _ fl33 (by decide)
                    refine N_iinc (a := x34.toInt) (c := 1) (fun w => [(4, .inl w), (0, .inr (.inr (.inl 96))), (1, .inl a0), (2, .inl a1), (3, .inl a2)]) rfl rfl (fun _ => rfl) (by decide) rfl (by decide) (by omega) (fun x47 q48 => ?_)
                    refine R_goto 52 rfl rfl ?_
                    exact RUN_weak (psub_cons rfl (psub_cons rfl (psub_cons rfl (psub_cons rfl (psub_cons rfl (psub_nil _)))))) (ih35 h45 x47 hI fr fl33 (by omega) (by omega))
              exact lp31 _ h28 (0 : Int32) hI fr (FR.rf _ _) (by decide) (Nat.lt_succ_self _)
            · refine R_bipush (-3) rfl rfl ?_
              exact R_iret rfl rfl rfl ⟨hI, fr, trivial, _, rfl, by rw [show ((-3) : Int32).toInt = (-3) from rfl] <;> omega⟩
          · refine R_bipush (-2) rfl rfl ?_
            exact R_iret rfl rfl rfl ⟨hI, fr, trivial, _, rfl, by rw [show ((-2) : Int32).toInt = (-2) from rfl] <;> omega⟩
abbrev q_X5_cutTo (h : PH) (a0 : Int32) (a1 : Int64) : Option PV → PH → Prop := fun r h' => h = h' ∧ ∃ z : Int64, r = some (.inr (.inl z))
set_option maxHeartbeats 4000000 in
set_option maxRecDepth 100000 in
theorem k_X5_cutTo (h : PH) (hI : INV h) (a0 : Int32) (a1 : Int64) : CALL d_X5_cutTo [.inl a0, .inr (.inl a1)] h (q_X5_cutTo h a0 a1) := by
  show RUN d_X5_cutTo 0 [(0, .inl a0), (1, .inr (.inl a1))] [] h _
  have b1 := i_rng a0
  refine R_iload_n (k := 0) rfl rfl rfl ?_
  rcases (show a0.toInt = 0 ∨ a0.toInt = 1 ∨ a0.toInt = 2 ∨ (a0.toInt < 0 ∨ 2 < a0.toInt) by omega) with c2 | c2 | c2 | c2
  · refine R_tsw (a := 0) 27 28 rfl (by decide) c2 (by decide) rfl rfl ?_
    refine R_lload_n (k := 1) rfl rfl rfl ?_
    refine R_l2i rfl ?_
    refine N_any (fun x3 => ?_)
    refine R_i2b rfl ?_
    refine N_any (fun x4 => ?_)
    refine N_i2l rfl (fun w5 q6 => ?_)
    exact R_lret rfl rfl ⟨rfl, _, rfl⟩
  · refine R_tsw (a := 1) 32 33 rfl (by decide) c2 (by decide) rfl rfl ?_
    refine R_lload_n (k := 1) rfl rfl rfl ?_
    refine R_l2i rfl ?_
    refine N_any (fun x7 => ?_)
    refine R_i2s rfl ?_
    refine N_any (fun x8 => ?_)
    refine N_i2l rfl (fun w9 q10 => ?_)
    exact R_lret rfl rfl ⟨rfl, _, rfl⟩
  · refine R_tsw (a := 2) 37 38 rfl (by decide) c2 (by decide) rfl rfl ?_
    refine R_lload_n (k := 1) rfl rfl rfl ?_
    refine R_l2i rfl ?_
    refine N_any (fun x11 => ?_)
    refine N_i2l rfl (fun w12 q13 => ?_)
    exact R_lret rfl rfl ⟨rfl, _, rfl⟩
  · refine R_tswd (a := a0.toInt) 42 rfl (by decide) rfl c2 rfl ?_
    refine R_lload_n (k := 1) rfl rfl rfl ?_
    exact R_lret rfl rfl ⟨rfl, _, rfl⟩
abbrev q_X5_setCell (h : PH) (a0 : Int32) (a1 : Int32) (a2 : Int64) : Option PV → PH → Prop := fun r h' => INV h' ∧ FR [67] h h' ∧ (True) ∧ r = none
set_option maxHeartbeats 4000000 in
set_option maxRecDepth 100000 in
theorem k_X5_setCell (h : PH) (hI : INV h) (a0 : Int32) (a1 : Int32) (a2 : Int64) (h0a : 0 ≤ a0.toInt ∧ a0.toInt ≤ 3) (h1a : 0 ≤ a1.toInt ∧ a1.toInt ≤ 59) : CALL d_X5_setCell [.inr (.inr (.inl 66)), .inl a0, .inl a1, .inr (.inl a2)] h (q_X5_setCell h a0 a1 a2) := by
  show RUN d_X5_setCell 0 [(0, .inr (.inr (.inl 66))), (1, .inl a0), (2, .inl a1), (3, .inr (.inl a2))] [] h _
  have fr : FR [67] h h := FR.rf _ _
  refine R_aload_n (k := 0) rfl rfl rfl ?_
  refine R_getf_r (j := 0) rfl ft_5_11 sh_66 rfl ?_
  refine R_iload_n (k := 1) rfl rfl rfl ?_
  refine R_bipush 60 rfl rfl ?_
  refine N_imul (a := a0.toInt) (b := 60) rfl rfl (by decide) (by omega) (fun x1 q2 => ?_)
  refine R_iload_n (k := 2) rfl rfl rfl ?_
  refine N_iadd (a := x1.toInt) (b := a1.toInt) rfl rfl rfl (by omega) (fun x3 q4 => ?_)
  refine R_aload_n (k := 0) rfl rfl rfl ?_
  refine R_getf_r (j := 2) rfl ft_5_19 sh_66 rfl ?_
  refine R_iload_n (k := 1) rfl rfl rfl ?_
  refine R_iald rfl sh_69 ⟨by omega, by omega⟩ ?_
  refine N_any (fun x5 => ?_)
  refine R_lload_n (k := 3) rfl rfl rfl ?_
  refine R_callS (As := [.inl x5, .inr (.inl a2)]) (rest := [.inl x3, .inr (.inr (.inl 67))]) rfl mt_5_i26 (by decide) pp_X5_cutTo (by decide) rfl rfl (Nat.le_of_ble_eq_true rfl) (Nat.le_of_ble_eq_true rfl) ((k_X5_cutTo h hI x5 a2).mono (fun r6 h7 p8 => ?_))
  obtain ⟨rfl, w9, rfl⟩ := p8
  show RUN d_X5_setCell 20 [(0, .inr (.inr (.inl 66))), (1, .inl a0), (2, .inl a1), (3, .inr (.inl a2))] [.inr (.inl w9), .inl x3, .inr (.inr (.inl 67))] h _
  refine K_last (a := x3.toInt) rfl sh_67 rfl ⟨by omega, by omega⟩ hI fr (by decide) (fun h10 g11 hI fr => ?_)
  exact R_vret rfl rfl ⟨hI, fr, trivial, rfl⟩
abbrev q_X8_write (h : PH) (a0 : Int32) (a1 : Int32) (a2 : Int64) : Option PV → PH → Prop := fun r h' => INV h' ∧ FR [67] h h' ∧ (True) ∧ ∃ z : Int32, r = some (.inl z) ∧ (((-7) ≤ z.toInt ∧ z.toInt ≤ 0))
set_option maxHeartbeats 4000000 in
set_option maxRecDepth 100000 in
theorem k_X8_write (h : PH) (hI : INV h) (a0 : Int32) (a1 : Int32) (a2 : Int64) : CALL d_X8_write [.inr (.inr (.inl 0)), .inl a0, .inl a1, .inr (.inl a2)] h (q_X8_write h a0 a1 a2) := by
  show RUN d_X8_write 0 [(0, .inr (.inr (.inl 0))), (1, .inl a0), (2, .inl a1), (3, .inr (.inl a2))] [] h _
  have b1 := i_rng a0
  have b2 := i_rng a1
  have fr : FR [67] h h := FR.rf _ _
  refine R_aload_n (k := 0) rfl rfl rfl ?_
  refine R_getf_r (j := 6) rfl ft_8_42 sh_0 rfl ?_
  refine R_iload_n (k := 1) rfl rfl rfl ?_
  refine R_callV (v := .inr (.inr (.inl 66))) (As := [.inl a0]) (rest := []) rfl mt_8_i386 pp_X5_isSlot (by decide) rfl rfl rfl (Nat.le_of_ble_eq_true rfl) (Nat.le_of_ble_eq_true rfl) ((k_X5_isSlot h hI a0).mono (fun r3 h4 p5 => ?_))
  obtain ⟨rfl, x6, rfl, q7 | q7 | q7⟩ := p5
  · show RUN d_X8_write 8 [(0, .inr (.inr (.inl 0))), (1, .inl a0), (2, .inl a1), (3, .inr (.inl a2))] [.inl x6] h _
    refine N_if_ne (a := x6.toInt) 14 rfl rfl rfl (fun c8 => ?_) (fun c8 => ?_)
    · exfalso; omega
    · refine R_bipush (-2) rfl rfl ?_
      exact R_iret rfl rfl rfl ⟨hI, fr, trivial, _, rfl, by rw [show ((-2) : Int32).toInt = (-2) from rfl] <;> omega⟩
  · show RUN d_X8_write 8 [(0, .inr (.inr (.inl 0))), (1, .inl a0), (2, .inl a1), (3, .inr (.inl a2))] [.inl x6] h _
    refine N_if_ne (a := x6.toInt) 14 rfl rfl rfl (fun c9 => ?_) (fun c9 => ?_)
    · exfalso; omega
    · refine R_bipush (-2) rfl rfl ?_
      exact R_iret rfl rfl rfl ⟨hI, fr, trivial, _, rfl, by rw [show ((-2) : Int32).toInt = (-2) from rfl] <;> omega⟩
  · show RUN d_X8_write 8 [(0, .inr (.inr (.inl 0))), (1, .inl a0), (2, .inl a1), (3, .inr (.inl a2))] [.inl x6] h _
    refine N_if_ne (a := x6.toInt) 14 rfl rfl rfl (fun c10 => ?_) (fun c10 => ?_)
    · refine R_aload_n (k := 0) rfl rfl rfl ?_
      refine R_getf_r (j := 6) rfl ft_8_42 sh_0 rfl ?_
      refine R_iload_n (k := 1) rfl rfl rfl ?_
      refine R_callV (v := .inr (.inr (.inl 66))) (As := [.inl a0]) (rest := []) rfl mt_8_i392 pp_X5_hasRow (by decide) rfl rfl rfl (Nat.le_of_ble_eq_true rfl) (Nat.le_of_ble_eq_true rfl) ((k_X5_hasRow h hI a0 (by omega)).mono (fun r11 h12 p13 => ?_))
      obtain ⟨rfl, x14, rfl, q15 | q15⟩ := p13
      · show RUN d_X8_write 22 [(0, .inr (.inr (.inl 0))), (1, .inl a0), (2, .inl a1), (3, .inr (.inl a2))] [.inl x14] h _
        refine N_if_ne (a := x14.toInt) 28 rfl rfl rfl (fun c16 => ?_) (fun c16 => ?_)
        · exfalso; omega
        · refine R_bipush (-6) rfl rfl ?_
          exact R_iret rfl rfl rfl ⟨hI, fr, trivial, _, rfl, by rw [show ((-6) : Int32).toInt = (-6) from rfl] <;> omega⟩
      · show RUN d_X8_write 22 [(0, .inr (.inr (.inl 0))), (1, .inl a0), (2, .inl a1), (3, .inr (.inl a2))] [.inl x14] h _
        refine N_if_ne (a := x14.toInt) 28 rfl rfl rfl (fun c17 => ?_) (fun c17 => ?_)
        · refine R_iload_n (k := 2) rfl rfl rfl ?_
          refine N_if_lt (a := a1.toInt) 45 rfl rfl rfl (fun c18 => ?_) (fun c18 => ?_)
          · refine R_bipush (-7) rfl rfl ?_
            exact R_iret rfl rfl rfl ⟨hI, fr, trivial, _, rfl, by rw [show ((-7) : Int32).toInt = (-7) from rfl] <;> omega⟩
          · refine R_iload_n (k := 2) rfl rfl rfl ?_
            refine R_aload_n (k := 0) rfl rfl rfl ?_
            refine R_getf_r (j := 6) rfl ft_8_42 sh_0 rfl ?_
            refine R_getf_r (j := 1) rfl ft_8_395 sh_66 rfl ?_
            refine R_iload_n (k := 1) rfl rfl rfl ?_
            refine R_iald rfl sh_68 ⟨by omega, by omega⟩ ?_
            refine N_bd (lo := (-1)) (hi := 60) (hI.1 68 _) (fun x19 q20 => ?_)
            refine N_icmp_lt (a := a1.toInt) (b := x19.toInt) 48 rfl rfl rfl rfl (fun c21 => ?_) (fun c21 => ?_)
            · refine R_aload_n (k := 0) rfl rfl rfl ?_
              refine R_getf_r (j := 6) rfl ft_8_42 sh_0 rfl ?_
              refine R_iload_n (k := 1) rfl rfl rfl ?_
              refine R_iload_n (k := 2) rfl rfl rfl ?_
              refine R_lload_n (k := 3) rfl rfl rfl ?_
              refine R_callV (v := .inr (.inr (.inl 66))) (As := [.inl a0, .inl a1, .inr (.inl a2)]) (rest := []) rfl mt_8_i397 pp_X5_setCell (by decide) rfl rfl rfl (Nat.le_of_ble_eq_true rfl) (Nat.le_of_ble_eq_true rfl) ((k_X5_setCell h hI a0 a1 a2 (by omega) (by omega)).mono (fun r22 h23 p24 => ?_))
              obtain ⟨hJ, fj, -, rfl⟩ := p24
              have f25 := fj
              have fr := fr.trans fj (by decide)
              have hI := hJ
              show RUN d_X8_write 58 [(0, .inr (.inr (.inl 0))), (1, .inl a0), (2, .inl a1), (3, .inr (.inl a2))] [] h23 _
              refine R_iconst 0 rfl rfl ?_
              exact R_iret rfl rfl rfl ⟨hI, fr, trivial, _, rfl, by rw [show (0 : Int32).toInt = 0 from rfl] <;> omega⟩
            · refine R_bipush (-7) rfl rfl ?_
              exact R_iret rfl rfl rfl ⟨hI, fr, trivial, _, rfl, by rw [show ((-7) : Int32).toInt = (-7) from rfl] <;> omega⟩
        · exfalso; omega
    · exfalso; omega
abbrev q_X9_cut (h : PH) (a0 : Int64) (a1 : Int32) : Option PV → PH → Prop := fun r h' => h = h' ∧ ∃ z : Int64, r = some (.inr (.inl z))
set_option maxHeartbeats 4000000 in
set_option maxRecDepth 100000 in
theorem k_X9_cut (h : PH) (hI : INV h) (a0 : Int64) (a1 : Int32) : CALL d_X9_cut [.inr (.inl a0), .inl a1] h (q_X9_cut h a0 a1) := by
  show RUN d_X9_cut 0 [(0, .inr (.inl a0)), (2, .inl a1)] [] h _
  have b1 := i_rng a1
  refine R_bipush 64 rfl rfl ?_
  refine R_bipush 8 rfl rfl ?_
  refine R_iload_n (k := 2) rfl rfl rfl ?_
  refine R_ishl rfl ?_
  refine N_any (fun x2 => ?_)
  have b3 := i_rng x2
  refine R_isub rfl ?_
  refine N_any (fun x4 => ?_)
  refine R_istore_n (k := 3) rfl [(3, .inl x4), (0, .inr (.inl a0)), (2, .inl a1)] rfl rfl (by decide) ?_
  refine R_lload_n (k := 0) rfl rfl rfl ?_
  refine R_iload_n (k := 3) rfl rfl rfl ?_
  refine R_lshl rfl ?_
  refine N_anyL (fun w5 => ?_)
  refine R_iload_n (k := 3) rfl rfl rfl ?_
  refine R_lshr rfl ?_
  refine N_anyL (fun w6 => ?_)
  exact R_lret rfl rfl ⟨rfl, _, rfl⟩
abbrev q_X9_write (h : PH) (a0 : Int32) (a1 : Int32) (a2 : Int64) : Option PV → PH → Prop := fun r h' => INV h' ∧ FR [129] h h' ∧ (True) ∧ ∃ z : Int32, r = some (.inl z) ∧ (((-7) ≤ z.toInt ∧ z.toInt ≤ 0))
set_option maxHeartbeats 4000000 in
set_option maxRecDepth 100000 in
theorem k_X9_write (h : PH) (hI : INV h) (a0 : Int32) (a1 : Int32) (a2 : Int64) : CALL d_X9_write [.inr (.inr (.inl 96)), .inl a0, .inl a1, .inr (.inl a2)] h (q_X9_write h a0 a1 a2) := by
  show RUN d_X9_write 0 [(0, .inr (.inr (.inl 96))), (1, .inl a0), (2, .inl a1), (3, .inr (.inl a2))] [] h _
  have b1 := i_rng a0
  have b2 := i_rng a1
  have fr : FR [129] h h := FR.rf _ _
  refine R_iload_n (k := 1) rfl rfl rfl ?_
  refine R_callS (As := [.inl a0]) (rest := []) rfl mt_9_i440 (by decide) pp_X9_isSlot (by decide) rfl rfl (Nat.le_of_ble_eq_true rfl) (Nat.le_of_ble_eq_true rfl) ((k_X9_isSlot h hI a0).mono (fun r3 h4 p5 => ?_))
  obtain ⟨rfl, x6, rfl, q7 | q7 | q7⟩ := p5
  · show RUN d_X9_write 4 [(0, .inr (.inr (.inl 96))), (1, .inl a0), (2, .inl a1), (3, .inr (.inl a2))] [.inl x6] h _
    refine N_if_ne (a := x6.toInt) 10 rfl rfl rfl (fun c8 => ?_) (fun c8 => ?_)
    · exfalso; omega
    · refine R_bipush (-2) rfl rfl ?_
      exact R_iret rfl rfl rfl ⟨hI, fr, trivial, _, rfl, by rw [show ((-2) : Int32).toInt = (-2) from rfl] <;> omega⟩
  · show RUN d_X9_write 4 [(0, .inr (.inr (.inl 96))), (1, .inl a0), (2, .inl a1), (3, .inr (.inl a2))] [.inl x6] h _
    refine N_if_ne (a := x6.toInt) 10 rfl rfl rfl (fun c9 => ?_) (fun c9 => ?_)
    · exfalso; omega
    · refine R_bipush (-2) rfl rfl ?_
      exact R_iret rfl rfl rfl ⟨hI, fr, trivial, _, rfl, by rw [show ((-2) : Int32).toInt = (-2) from rfl] <;> omega⟩
  · show RUN d_X9_write 4 [(0, .inr (.inr (.inl 96))), (1, .inl a0), (2, .inl a1), (3, .inr (.inl a2))] [.inl x6] h _
    refine N_if_ne (a := x6.toInt) 10 rfl rfl rfl (fun c10 => ?_) (fun c10 => ?_)
    · refine R_aload_n (k := 0) rfl rfl rfl ?_
      refine R_getf_r (j := 57) rfl ft_9_107 sh_96 rfl ?_
      refine R_iload_n (k := 1) rfl rfl rfl ?_
      refine R_iald rfl sh_127 ⟨by omega, by omega⟩ ?_
      refine N_bd (lo := (-1)) (hi := 60) (hI.1 127 _) (fun x11 q12 => ?_)
      refine R_iconst (-1) rfl rfl ?_
      refine N_icmp_ne (a := x11.toInt) (b := (-1)) 23 rfl rfl rfl (by decide) (fun c13 => ?_) (fun c13 => ?_)
      · refine R_iload_n (k := 2) rfl rfl rfl ?_
        refine N_i2l rfl (fun w14 q15 => ?_)
        refine R_lconst 0 rfl rfl ?_
        refine R_aload_n (k := 0) rfl rfl rfl ?_
        refine R_getf_r (j := 57) rfl ft_9_107 sh_96 rfl ?_
        refine R_iload_n (k := 1) rfl rfl rfl ?_
        refine R_iald rfl sh_127 ⟨by omega, by omega⟩ ?_
        refine N_bd (lo := (-1)) (hi := 60) (hI.1 127 _) (fun x16 q17 => ?_)
        refine R_iconst 1 rfl rfl ?_
        refine N_isub (a := x16.toInt) (b := 1) rfl rfl (by decide) (by omega) (fun x18 q19 => ?_)
        refine N_i2l rfl (fun w20 q21 => ?_)
        have k22 : (0 : Int64).toInt = 0 := by decide
        refine R_callS (As := [.inr (.inl w14), .inr (.inl 0), .inr (.inl w20)]) (rest := []) rfl mt_9_i125 (by decide) pp_X9_in (by decide) rfl rfl (Nat.le_of_ble_eq_true rfl) (Nat.le_of_ble_eq_true rfl) ((k_X9_in h hI w14 (0 : Int64) w20).mono (fun r23 h24 p25 => ?_))
        obtain ⟨rfl, x26, rfl, q27 | q27 | q27⟩ := p25
        · show RUN d_X9_write 38 [(0, .inr (.inr (.inl 96))), (1, .inl a0), (2, .inl a1), (3, .inr (.inl a2))] [.inl x26] h _
          refine N_if_ne (a := x26.toInt) 44 rfl rfl rfl (fun c28 => ?_) (fun c28 => ?_)
          · exfalso; omega
          · refine R_bipush (-7) rfl rfl ?_
            exact R_iret rfl rfl rfl ⟨hI, fr, trivial, _, rfl, by rw [show ((-7) : Int32).toInt = (-7) from rfl] <;> omega⟩
        · show RUN d_X9_write 38 [(0, .inr (.inr (.inl 96))), (1, .inl a0), (2, .inl a1), (3, .inr (.inl a2))] [.inl x26] h _
          refine N_if_ne (a := x26.toInt) 44 rfl rfl rfl (fun c29 => ?_) (fun c29 => ?_)
          · exfalso; omega
          · refine R_bipush (-7) rfl rfl ?_
            exact R_iret rfl rfl rfl ⟨hI, fr, trivial, _, rfl, by rw [show ((-7) : Int32).toInt = (-7) from rfl] <;> omega⟩
        · show RUN d_X9_write 38 [(0, .inr (.inr (.inl 96))), (1, .inl a0), (2, .inl a1), (3, .inr (.inl a2))] [.inl x26] h _
          refine N_if_ne (a := x26.toInt) 44 rfl rfl rfl (fun c30 => ?_) (fun c30 => ?_)
          · refine R_aload_n (k := 0) rfl rfl rfl ?_
            refine R_getf_r (j := 59) rfl ft_9_113 sh_96 rfl ?_
            refine R_bipush 60 rfl rfl ?_
            refine R_iload_n (k := 1) rfl rfl rfl ?_
            refine N_imul (a := 60) (b := a0.toInt) rfl (by decide) rfl (by omega) (fun x31 q32 => ?_)
            refine R_iload_n (k := 2) rfl rfl rfl ?_
            refine N_iadd (a := x31.toInt) (b := a1.toInt) rfl rfl rfl (by omega) (fun x33 q34 => ?_)
            refine R_lload_n (k := 3) rfl rfl rfl ?_
            refine R_aload_n (k := 0) rfl rfl rfl ?_
            refine R_getf_r (j := 58) rfl ft_9_110 sh_96 rfl ?_
            refine R_iload_n (k := 1) rfl rfl rfl ?_
            refine R_iald rfl sh_128 ⟨by omega, by omega⟩ ?_
            refine N_any (fun x35 => ?_)
            refine R_callS (As := [.inr (.inl a2), .inl x35]) (rest := [.inl x33, .inr (.inr (.inl 129))]) rfl mt_9_i531 (by decide) pp_X9_cut (by decide) rfl rfl (Nat.le_of_ble_eq_true rfl) (Nat.le_of_ble_eq_true rfl) ((k_X9_cut h hI a2 x35).mono (fun r36 h37 p38 => ?_))
            obtain ⟨rfl, w39, rfl⟩ := p38
            show RUN d_X9_write 64 [(0, .inr (.inr (.inl 96))), (1, .inl a0), (2, .inl a1), (3, .inr (.inl a2))] [.inr (.inl w39), .inl x33, .inr (.inr (.inl 129))] h _
            refine K_last (a := x33.toInt) rfl sh_129 rfl ⟨by omega, by omega⟩ hI fr (by decide) (fun h40 g41 hI fr => ?_)
            refine R_iconst 0 rfl rfl ?_
            exact R_iret rfl rfl rfl ⟨hI, fr, trivial, _, rfl, by rw [show (0 : Int32).toInt = 0 from rfl] <;> omega⟩
          · exfalso; omega
      · refine R_bipush (-6) rfl rfl ?_
        exact R_iret rfl rfl rfl ⟨hI, fr, trivial, _, rfl, by rw [show ((-6) : Int32).toInt = (-6) from rfl] <;> omega⟩
    · exfalso; omega
abbrev q_X5_hasCells (h : PH) (a0 : Int32) (a1 : Int32) (a2 : Int32) : Option PV → PH → Prop := fun r h' => h = h' ∧ ∃ z : Int32, r = some (.inl z) ∧ ((z.toInt = 0 ∧ a1.toInt ≤ (-1)) ∨ (z.toInt = 0 ∧ 0 ≤ a1.toInt ∧ a2.toInt ≤ (-1)) ∨ (z.toInt = 0 ∧ 0 ≤ a1.toInt ∧ 0 ≤ a2.toInt) ∨ (z.toInt = 1 ∧ 0 ≤ a1.toInt ∧ a1.toInt ≤ 60 ∧ 0 ≤ a2.toInt ∧ a1.toInt + a2.toInt ≤ 60))
set_option maxHeartbeats 4000000 in
set_option maxRecDepth 100000 in
theorem k_X5_hasCells (h : PH) (hI : INV h) (a0 : Int32) (a1 : Int32) (a2 : Int32) (h0a : 0 ≤ a0.toInt ∧ a0.toInt ≤ 3) : CALL d_X5_hasCells [.inr (.inr (.inl 66)), .inl a0, .inl a1, .inl a2] h (q_X5_hasCells h a0 a1 a2) := by
  show RUN d_X5_hasCells 0 [(0, .inr (.inr (.inl 66))), (1, .inl a0), (2, .inl a1), (3, .inl a2)] [] h _
  have b1 := i_rng a1
  have b2 := i_rng a2
  refine R_iload_n (k := 2) rfl rfl rfl ?_
  refine N_if_lt (a := a1.toInt) 24 rfl rfl rfl (fun c3 => ?_) (fun c3 => ?_)
  · refine R_iconst 0 rfl rfl ?_
    exact R_iret rfl rfl rfl ⟨rfl, _, rfl, by rw [show (0 : Int32).toInt = 0 from rfl] <;> omega⟩
  · refine R_iload_n (k := 3) rfl rfl rfl ?_
    refine N_if_lt (a := a2.toInt) 24 rfl rfl rfl (fun c4 => ?_) (fun c4 => ?_)
    · refine R_iconst 0 rfl rfl ?_
      exact R_iret rfl rfl rfl ⟨rfl, _, rfl, by rw [show (0 : Int32).toInt = 0 from rfl] <;> omega⟩
    · refine R_iload_n (k := 2) rfl rfl rfl ?_
      refine R_aload_n (k := 0) rfl rfl rfl ?_
      refine R_getf_r (j := 1) rfl ft_5_15 sh_66 rfl ?_
      refine R_iload_n (k := 1) rfl rfl rfl ?_
      refine R_iald rfl sh_68 ⟨by omega, by omega⟩ ?_
      refine N_bd (lo := (-1)) (hi := 60) (hI.1 68 _) (fun x5 q6 => ?_)
      refine R_iload_n (k := 3) rfl rfl rfl ?_
      have b7 := i_rng a2
      refine N_isub (a := x5.toInt) (b := a2.toInt) rfl rfl rfl (by omega) (fun x8 q9 => ?_)
      refine N_icmp_gt (a := a1.toInt) (b := x8.toInt) 24 rfl rfl rfl rfl (fun c10 => ?_) (fun c10 => ?_)
      · refine R_iconst 0 rfl rfl ?_
        exact R_iret rfl rfl rfl ⟨rfl, _, rfl, by rw [show (0 : Int32).toInt = 0 from rfl] <;> omega⟩
      · refine R_iconst 1 rfl rfl ?_
        refine R_goto 25 rfl rfl ?_
        exact R_iret rfl rfl rfl ⟨rfl, _, rfl, by rw [show (1 : Int32).toInt = 1 from rfl] <;> omega⟩
abbrev q_X5_copyCells (h : PH) (a0 : Int32) (a1 : Int32) (a2 : Int32) (a3 : Int32) (a4 : Int32) : Option PV → PH → Prop := fun r h' => INV h' ∧ FR [67] h h' ∧ (True) ∧ r = none
set_option maxHeartbeats 4000000 in
set_option maxRecDepth 100000 in
theorem k_X5_copyCells (h : PH) (hI : INV h) (a0 : Int32) (a1 : Int32) (a2 : Int32) (a3 : Int32) (a4 : Int32) (h0a : 0 ≤ a0.toInt ∧ a0.toInt ≤ 3) (h1a : 0 ≤ a1.toInt ∧ a1.toInt ≤ 60) (h2a : 0 ≤ a2.toInt ∧ a2.toInt ≤ 3) (h3a : 0 ≤ a3.toInt ∧ a3.toInt ≤ 60) (h4a : 0 ≤ a4.toInt ∧ a4.toInt ≤ 60) (xp0 : a1.toInt + a4.toInt ≤ 60) (xp1 : a3.toInt + a4.toInt ≤ 60) : CALL d_X5_copyCells [.inr (.inr (.inl 66)), .inl a0, .inl a1, .inl a2, .inl a3, .inl a4] h (q_X5_copyCells h a0 a1 a2 a3 a4) := by
  show RUN d_X5_copyCells 0 [(0, .inr (.inr (.inl 66))), (1, .inl a0), (2, .inl a1), (3, .inl a2), (4, .inl a3), (5, .inl a4)] [] h _
  have fr : FR [67] h h := FR.rf _ _
  refine R_aload_n (k := 0) rfl rfl rfl ?_
  refine R_getf_r (j := 0) rfl ft_5_11 sh_66 rfl ?_
  refine R_iload_n (k := 1) rfl rfl rfl ?_
  refine R_bipush 60 rfl rfl ?_
  refine N_imul (a := a0.toInt) (b := 60) rfl rfl (by decide) (by omega) (fun x1 q2 => ?_)
  refine R_iload_n (k := 2) rfl rfl rfl ?_
  refine N_iadd (a := x1.toInt) (b := a1.toInt) rfl rfl rfl (by omega) (fun x3 q4 => ?_)
  refine R_aload_n (k := 0) rfl rfl rfl ?_
  refine R_getf_r (j := 0) rfl ft_5_11 sh_66 rfl ?_
  refine R_iload_n (k := 3) rfl rfl rfl ?_
  refine R_bipush 60 rfl rfl ?_
  refine N_imul (a := a2.toInt) (b := 60) rfl rfl (by decide) (by omega) (fun x5 q6 => ?_)
  refine R_iload (k := 4) rfl rfl ?_
  refine N_iadd (a := x5.toInt) (b := a3.toInt) rfl rfl rfl (by omega) (fun x7 q8 => ?_)
  refine R_iload (k := 5) rfl rfl ?_
  refine K_cpyL rfl mt_5_i30 sh_67 sh_67 (by omega) ⟨by decide, by decide, Nat.le_of_ble_eq_true rfl⟩ hI fr (by decide) (fun h9 g10 hI fr => ?_)
  exact R_vret rfl rfl ⟨hI, fr, trivial, rfl⟩
abbrev q_X8_paste (h : PH) (a0 : Int32) (a1 : Int32) (a2 : Int32) (a3 : Int32) (a4 : Int32) : Option PV → PH → Prop := fun r h' => INV h' ∧ FR [67] h h' ∧ (True) ∧ ∃ z : Int32, r = some (.inl z) ∧ (((-8) ≤ z.toInt ∧ z.toInt ≤ 0))
set_option maxHeartbeats 4000000 in
set_option maxRecDepth 100000 in
theorem k_X8_paste (h : PH) (hI : INV h) (a0 : Int32) (a1 : Int32) (a2 : Int32) (a3 : Int32) (a4 : Int32) : CALL d_X8_paste [.inr (.inr (.inl 0)), .inl a0, .inl a1, .inl a2, .inl a3, .inl a4] h (q_X8_paste h a0 a1 a2 a3 a4) := by
  show RUN d_X8_paste 0 [(0, .inr (.inr (.inl 0))), (1, .inl a0), (2, .inl a1), (3, .inl a2), (4, .inl a3), (5, .inl a4)] [] h _
  have b1 := i_rng a0
  have b2 := i_rng a1
  have b3 := i_rng a2
  have b4 := i_rng a3
  have b5 := i_rng a4
  have fr : FR [67] h h := FR.rf _ _
  refine R_aload_n (k := 0) rfl rfl rfl ?_
  refine R_getf_r (j := 6) rfl ft_8_42 sh_0 rfl ?_
  refine R_iload_n (k := 1) rfl rfl rfl ?_
  refine R_callV (v := .inr (.inr (.inl 66))) (As := [.inl a0]) (rest := []) rfl mt_8_i386 pp_X5_isSlot (by decide) rfl rfl rfl (Nat.le_of_ble_eq_true rfl) (Nat.le_of_ble_eq_true rfl) ((k_X5_isSlot h hI a0).mono (fun r6 h7 p8 => ?_))
  obtain ⟨rfl, x9, rfl, q10 | q10 | q10⟩ := p8
  · show RUN d_X8_paste 8 [(0, .inr (.inr (.inl 0))), (1, .inl a0), (2, .inl a1), (3, .inl a2), (4, .inl a3), (5, .inl a4)] [.inl x9] h _
    refine N_if_eq (a := x9.toInt) 22 rfl rfl rfl (fun c11 => ?_) (fun c11 => ?_)
    · refine R_bipush (-2) rfl rfl ?_
      exact R_iret rfl rfl rfl ⟨hI, fr, trivial, _, rfl, by rw [show ((-2) : Int32).toInt = (-2) from rfl] <;> omega⟩
    · exfalso; omega
  · show RUN d_X8_paste 8 [(0, .inr (.inr (.inl 0))), (1, .inl a0), (2, .inl a1), (3, .inl a2), (4, .inl a3), (5, .inl a4)] [.inl x9] h _
    refine N_if_eq (a := x9.toInt) 22 rfl rfl rfl (fun c12 => ?_) (fun c12 => ?_)
    · refine R_bipush (-2) rfl rfl ?_
      exact R_iret rfl rfl rfl ⟨hI, fr, trivial, _, rfl, by rw [show ((-2) : Int32).toInt = (-2) from rfl] <;> omega⟩
    · exfalso; omega
  · show RUN d_X8_paste 8 [(0, .inr (.inr (.inl 0))), (1, .inl a0), (2, .inl a1), (3, .inl a2), (4, .inl a3), (5, .inl a4)] [.inl x9] h _
    refine N_if_eq (a := x9.toInt) 22 rfl rfl rfl (fun c13 => ?_) (fun c13 => ?_)
    · exfalso; omega
    · refine R_aload_n (k := 0) rfl rfl rfl ?_
      refine R_getf_r (j := 6) rfl ft_8_42 sh_0 rfl ?_
      refine R_iload_n (k := 3) rfl rfl rfl ?_
      refine R_callV (v := .inr (.inr (.inl 66))) (As := [.inl a2]) (rest := []) rfl mt_8_i386 pp_X5_isSlot (by decide) rfl rfl rfl (Nat.le_of_ble_eq_true rfl) (Nat.le_of_ble_eq_true rfl) ((k_X5_isSlot h hI a2).mono (fun r14 h15 p16 => ?_))
      obtain ⟨rfl, x17, rfl, q18 | q18 | q18⟩ := p16
      · show RUN d_X8_paste 19 [(0, .inr (.inr (.inl 0))), (1, .inl a0), (2, .inl a1), (3, .inl a2), (4, .inl a3), (5, .inl a4)] [.inl x17] h _
        refine N_if_ne (a := x17.toInt) 25 rfl rfl rfl (fun c19 => ?_) (fun c19 => ?_)
        · exfalso; omega
        · refine R_bipush (-2) rfl rfl ?_
          exact R_iret rfl rfl rfl ⟨hI, fr, trivial, _, rfl, by rw [show ((-2) : Int32).toInt = (-2) from rfl] <;> omega⟩
      · show RUN d_X8_paste 19 [(0, .inr (.inr (.inl 0))), (1, .inl a0), (2, .inl a1), (3, .inl a2), (4, .inl a3), (5, .inl a4)] [.inl x17] h _
        refine N_if_ne (a := x17.toInt) 25 rfl rfl rfl (fun c20 => ?_) (fun c20 => ?_)
        · exfalso; omega
        · refine R_bipush (-2) rfl rfl ?_
          exact R_iret rfl rfl rfl ⟨hI, fr, trivial, _, rfl, by rw [show ((-2) : Int32).toInt = (-2) from rfl] <;> omega⟩
      · show RUN d_X8_paste 19 [(0, .inr (.inr (.inl 0))), (1, .inl a0), (2, .inl a1), (3, .inl a2), (4, .inl a3), (5, .inl a4)] [.inl x17] h _
        refine N_if_ne (a := x17.toInt) 25 rfl rfl rfl (fun c21 => ?_) (fun c21 => ?_)
        · refine R_aload_n (k := 0) rfl rfl rfl ?_
          refine R_getf_r (j := 6) rfl ft_8_42 sh_0 rfl ?_
          refine R_iload_n (k := 1) rfl rfl rfl ?_
          refine R_callV (v := .inr (.inr (.inl 66))) (As := [.inl a0]) (rest := []) rfl mt_8_i392 pp_X5_hasRow (by decide) rfl rfl rfl (Nat.le_of_ble_eq_true rfl) (Nat.le_of_ble_eq_true rfl) ((k_X5_hasRow h hI a0 (by omega)).mono (fun r22 h23 p24 => ?_))
          obtain ⟨rfl, x25, rfl, q26 | q26⟩ := p24
          · show RUN d_X8_paste 33 [(0, .inr (.inr (.inl 0))), (1, .inl a0), (2, .inl a1), (3, .inl a2), (4, .inl a3), (5, .inl a4)] [.inl x25] h _
            refine N_if_eq (a := x25.toInt) 47 rfl rfl rfl (fun c27 => ?_) (fun c27 => ?_)
            · refine R_bipush (-6) rfl rfl ?_
              exact R_iret rfl rfl rfl ⟨hI, fr, trivial, _, rfl, by rw [show ((-6) : Int32).toInt = (-6) from rfl] <;> omega⟩
            · exfalso; omega
          · show RUN d_X8_paste 33 [(0, .inr (.inr (.inl 0))), (1, .inl a0), (2, .inl a1), (3, .inl a2), (4, .inl a3), (5, .inl a4)] [.inl x25] h _
            refine N_if_eq (a := x25.toInt) 47 rfl rfl rfl (fun c28 => ?_) (fun c28 => ?_)
            · exfalso; omega
            · refine R_aload_n (k := 0) rfl rfl rfl ?_
              refine R_getf_r (j := 6) rfl ft_8_42 sh_0 rfl ?_
              refine R_iload_n (k := 3) rfl rfl rfl ?_
              refine R_callV (v := .inr (.inr (.inl 66))) (As := [.inl a2]) (rest := []) rfl mt_8_i392 pp_X5_hasRow (by decide) rfl rfl rfl (Nat.le_of_ble_eq_true rfl) (Nat.le_of_ble_eq_true rfl) ((k_X5_hasRow h hI a2 (by omega)).mono (fun r29 h30 p31 => ?_))
              obtain ⟨rfl, x32, rfl, q33 | q33⟩ := p31
              · show RUN d_X8_paste 44 [(0, .inr (.inr (.inl 0))), (1, .inl a0), (2, .inl a1), (3, .inl a2), (4, .inl a3), (5, .inl a4)] [.inl x32] h _
                refine N_if_ne (a := x32.toInt) 50 rfl rfl rfl (fun c34 => ?_) (fun c34 => ?_)
                · exfalso; omega
                · refine R_bipush (-6) rfl rfl ?_
                  exact R_iret rfl rfl rfl ⟨hI, fr, trivial, _, rfl, by rw [show ((-6) : Int32).toInt = (-6) from rfl] <;> omega⟩
              · show RUN d_X8_paste 44 [(0, .inr (.inr (.inl 0))), (1, .inl a0), (2, .inl a1), (3, .inl a2), (4, .inl a3), (5, .inl a4)] [.inl x32] h _
                refine N_if_ne (a := x32.toInt) 50 rfl rfl rfl (fun c35 => ?_) (fun c35 => ?_)
                · refine R_aload_n (k := 0) rfl rfl rfl ?_
                  refine R_getf_r (j := 6) rfl ft_8_42 sh_0 rfl ?_
                  refine R_getf_r (j := 2) rfl ft_8_401 sh_66 rfl ?_
                  refine R_iload_n (k := 1) rfl rfl rfl ?_
                  refine R_iald rfl sh_69 ⟨by omega, by omega⟩ ?_
                  refine N_any (fun x36 => ?_)
                  refine R_aload_n (k := 0) rfl rfl rfl ?_
                  refine R_getf_r (j := 6) rfl ft_8_42 sh_0 rfl ?_
                  refine R_getf_r (j := 2) rfl ft_8_401 sh_66 rfl ?_
                  refine R_iload_n (k := 3) rfl rfl rfl ?_
                  refine R_iald rfl sh_69 ⟨by omega, by omega⟩ ?_
                  refine N_any (fun x37 => ?_)
                  refine N_icmp_eq (a := x36.toInt) (b := x37.toInt) 74 rfl rfl rfl rfl (fun c38 => ?_) (fun c38 => ?_)
                  · refine R_aload_n (k := 0) rfl rfl rfl ?_
                    refine R_getf_r (j := 6) rfl ft_8_42 sh_0 rfl ?_
                    refine R_iload_n (k := 1) rfl rfl rfl ?_
                    refine R_iload_n (k := 2) rfl rfl rfl ?_
                    refine R_iload (k := 5) rfl rfl ?_
                    refine R_callV (v := .inr (.inr (.inl 66))) (As := [.inl a0, .inl a1, .inl a4]) (rest := []) rfl mt_8_i404 pp_X5_hasCells (by decide) rfl rfl rfl (Nat.le_of_ble_eq_true rfl) (Nat.le_of_ble_eq_true rfl) ((k_X5_hasCells h hI a0 a1 a4 (by omega)).mono (fun r39 h40 p41 => ?_))
                    obtain ⟨rfl, x42, rfl, q43 | q43 | q43 | q43⟩ := p41
                    · show RUN d_X8_paste 85 [(0, .inr (.inr (.inl 0))), (1, .inl a0), (2, .inl a1), (3, .inl a2), (4, .inl a3), (5, .inl a4)] [.inl x42] h _
                      refine N_if_eq (a := x42.toInt) 103 rfl rfl rfl (fun c44 => ?_) (fun c44 => ?_)
                      · refine R_bipush (-7) rfl rfl ?_
                        exact R_iret rfl rfl rfl ⟨hI, fr, trivial, _, rfl, by rw [show ((-7) : Int32).toInt = (-7) from rfl] <;> omega⟩
                      · exfalso; omega
                    · show RUN d_X8_paste 85 [(0, .inr (.inr (.inl 0))), (1, .inl a0), (2, .inl a1), (3, .inl a2), (4, .inl a3), (5, .inl a4)] [.inl x42] h _
                      refine N_if_eq (a := x42.toInt) 103 rfl rfl rfl (fun c45 => ?_) (fun c45 => ?_)
                      · refine R_bipush (-7) rfl rfl ?_
                        exact R_iret rfl rfl rfl ⟨hI, fr, trivial, _, rfl, by rw [show ((-7) : Int32).toInt = (-7) from rfl] <;> omega⟩
                      · exfalso; omega
                    · show RUN d_X8_paste 85 [(0, .inr (.inr (.inl 0))), (1, .inl a0), (2, .inl a1), (3, .inl a2), (4, .inl a3), (5, .inl a4)] [.inl x42] h _
                      refine N_if_eq (a := x42.toInt) 103 rfl rfl rfl (fun c46 => ?_) (fun c46 => ?_)
                      · refine R_bipush (-7) rfl rfl ?_
                        exact R_iret rfl rfl rfl ⟨hI, fr, trivial, _, rfl, by rw [show ((-7) : Int32).toInt = (-7) from rfl] <;> omega⟩
                      · exfalso; omega
                    · show RUN d_X8_paste 85 [(0, .inr (.inr (.inl 0))), (1, .inl a0), (2, .inl a1), (3, .inl a2), (4, .inl a3), (5, .inl a4)] [.inl x42] h _
                      refine N_if_eq (a := x42.toInt) 103 rfl rfl rfl (fun c47 => ?_) (fun c47 => ?_)
                      · exfalso; omega
                      · refine R_aload_n (k := 0) rfl rfl rfl ?_
                        refine R_getf_r (j := 6) rfl ft_8_42 sh_0 rfl ?_
                        refine R_iload_n (k := 3) rfl rfl rfl ?_
                        refine R_iload (k := 4) rfl rfl ?_
                        refine R_iload (k := 5) rfl rfl ?_
                        refine R_callV (v := .inr (.inr (.inl 66))) (As := [.inl a2, .inl a3, .inl a4]) (rest := []) rfl mt_8_i404 pp_X5_hasCells (by decide) rfl rfl rfl (Nat.le_of_ble_eq_true rfl) (Nat.le_of_ble_eq_true rfl) ((k_X5_hasCells h hI a2 a3 a4 (by omega)).mono (fun r48 h49 p50 => ?_))
                        obtain ⟨rfl, x51, rfl, q52 | q52 | q52 | q52⟩ := p50
                        · show RUN d_X8_paste 100 [(0, .inr (.inr (.inl 0))), (1, .inl a0), (2, .inl a1), (3, .inl a2), (4, .inl a3), (5, .inl a4)] [.inl x51] h _
                          refine N_if_ne (a := x51.toInt) 106 rfl rfl rfl (fun c53 => ?_) (fun c53 => ?_)
                          · exfalso; omega
                          · refine R_bipush (-7) rfl rfl ?_
                            exact R_iret rfl rfl rfl ⟨hI, fr, trivial, _, rfl, by rw [show ((-7) : Int32).toInt = (-7) from rfl] <;> omega⟩
                        · exfalso; omega
                        · show RUN d_X8_paste 100 [(0, .inr (.inr (.inl 0))), (1, .inl a0), (2, .inl a1), (3, .inl a2), (4, .inl a3), (5, .inl a4)] [.inl x51] h _
                          refine N_if_ne (a := x51.toInt) 106 rfl rfl rfl (fun c54 => ?_) (fun c54 => ?_)
                          · exfalso; omega
                          · refine R_bipush (-7) rfl rfl ?_
                            exact R_iret rfl rfl rfl ⟨hI, fr, trivial, _, rfl, by rw [show ((-7) : Int32).toInt = (-7) from rfl] <;> omega⟩
                        · show RUN d_X8_paste 100 [(0, .inr (.inr (.inl 0))), (1, .inl a0), (2, .inl a1), (3, .inl a2), (4, .inl a3), (5, .inl a4)] [.inl x51] h _
                          refine N_if_ne (a := x51.toInt) 106 rfl rfl rfl (fun c55 => ?_) (fun c55 => ?_)
                          · refine R_aload_n (k := 0) rfl rfl rfl ?_
                            refine R_getf_r (j := 6) rfl ft_8_42 sh_0 rfl ?_
                            refine R_iload_n (k := 1) rfl rfl rfl ?_
                            refine R_iload_n (k := 2) rfl rfl rfl ?_
                            refine R_iload_n (k := 3) rfl rfl rfl ?_
                            refine R_iload (k := 4) rfl rfl ?_
                            refine R_iload (k := 5) rfl rfl ?_
                            refine R_callV (v := .inr (.inr (.inl 66))) (As := [.inl a0, .inl a1, .inl a2, .inl a3, .inl a4]) (rest := []) rfl mt_8_i408 pp_X5_copyCells (by decide) rfl rfl rfl (Nat.le_of_ble_eq_true rfl) (Nat.le_of_ble_eq_true rfl) ((k_X5_copyCells h hI a0 a1 a2 a3 a4 (by omega) (by omega) (by omega) (by omega) (by omega) (by omega) (by omega)).mono (fun r56 h57 p58 => ?_))
                            obtain ⟨hJ, fj, -, rfl⟩ := p58
                            have f59 := fj
                            have fr := fr.trans fj (by decide)
                            have hI := hJ
                            show RUN d_X8_paste 120 [(0, .inr (.inr (.inl 0))), (1, .inl a0), (2, .inl a1), (3, .inl a2), (4, .inl a3), (5, .inl a4)] [] h57 _
                            refine R_iconst 0 rfl rfl ?_
                            exact R_iret rfl rfl rfl ⟨hI, fr, trivial, _, rfl, by rw [show (0 : Int32).toInt = 0 from rfl] <;> omega⟩
                          · exfalso; omega
                  · refine R_bipush (-8) rfl rfl ?_
                    exact R_iret rfl rfl rfl ⟨hI, fr, trivial, _, rfl, by rw [show ((-8) : Int32).toInt = (-8) from rfl] <;> omega⟩
                · exfalso; omega
        · exfalso; omega
abbrev q_X9_paste (h : PH) (a0 : Int32) (a1 : Int32) (a2 : Int32) (a3 : Int32) (a4 : Int32) : Option PV → PH → Prop := fun r h' => INV h' ∧ FR [129, 130] h h' ∧ (True) ∧ ∃ z : Int32, r = some (.inl z) ∧ (((-8) ≤ z.toInt ∧ z.toInt ≤ 0))
set_option maxHeartbeats 4000000 in
set_option maxRecDepth 100000 in
theorem k_X9_paste (h : PH) (hI : INV h) (a0 : Int32) (a1 : Int32) (a2 : Int32) (a3 : Int32) (a4 : Int32) : CALL d_X9_paste [.inr (.inr (.inl 96)), .inl a0, .inl a1, .inl a2, .inl a3, .inl a4] h (q_X9_paste h a0 a1 a2 a3 a4) := by
  show RUN d_X9_paste 0 [(0, .inr (.inr (.inl 96))), (1, .inl a0), (2, .inl a1), (3, .inl a2), (4, .inl a3), (5, .inl a4)] [] h _
  have b1 := i_rng a0
  have b2 := i_rng a1
  have b3 := i_rng a2
  have b4 := i_rng a3
  have b5 := i_rng a4
  have fr : FR [129, 130] h h := FR.rf _ _
  refine R_iload_n (k := 1) rfl rfl rfl ?_
  refine R_callS (As := [.inl a0]) (rest := []) rfl mt_9_i440 (by decide) pp_X9_isSlot (by decide) rfl rfl (Nat.le_of_ble_eq_true rfl) (Nat.le_of_ble_eq_true rfl) ((k_X9_isSlot h hI a0).mono (fun r6 h7 p8 => ?_))
  obtain ⟨rfl, x9, rfl, q10 | q10 | q10⟩ := p8
  · show RUN d_X9_paste 4 [(0, .inr (.inr (.inl 96))), (1, .inl a0), (2, .inl a1), (3, .inl a2), (4, .inl a3), (5, .inl a4)] [.inl x9] h _
    refine N_if_eq (a := x9.toInt) 14 rfl rfl rfl (fun c11 => ?_) (fun c11 => ?_)
    · refine R_bipush (-2) rfl rfl ?_
      exact R_iret rfl rfl rfl ⟨hI, fr, trivial, _, rfl, by rw [show ((-2) : Int32).toInt = (-2) from rfl] <;> omega⟩
    · exfalso; omega
  · show RUN d_X9_paste 4 [(0, .inr (.inr (.inl 96))), (1, .inl a0), (2, .inl a1), (3, .inl a2), (4, .inl a3), (5, .inl a4)] [.inl x9] h _
    refine N_if_eq (a := x9.toInt) 14 rfl rfl rfl (fun c12 => ?_) (fun c12 => ?_)
    · refine R_bipush (-2) rfl rfl ?_
      exact R_iret rfl rfl rfl ⟨hI, fr, trivial, _, rfl, by rw [show ((-2) : Int32).toInt = (-2) from rfl] <;> omega⟩
    · exfalso; omega
  · show RUN d_X9_paste 4 [(0, .inr (.inr (.inl 96))), (1, .inl a0), (2, .inl a1), (3, .inl a2), (4, .inl a3), (5, .inl a4)] [.inl x9] h _
    refine N_if_eq (a := x9.toInt) 14 rfl rfl rfl (fun c13 => ?_) (fun c13 => ?_)
    · exfalso; omega
    · refine R_iload_n (k := 3) rfl rfl rfl ?_
      refine R_callS (As := [.inl a2]) (rest := []) rfl mt_9_i440 (by decide) pp_X9_isSlot (by decide) rfl rfl (Nat.le_of_ble_eq_true rfl) (Nat.le_of_ble_eq_true rfl) ((k_X9_isSlot h hI a2).mono (fun r14 h15 p16 => ?_))
      obtain ⟨rfl, x17, rfl, q18 | q18 | q18⟩ := p16
      · show RUN d_X9_paste 11 [(0, .inr (.inr (.inl 96))), (1, .inl a0), (2, .inl a1), (3, .inl a2), (4, .inl a3), (5, .inl a4)] [.inl x17] h _
        refine N_if_ne (a := x17.toInt) 17 rfl rfl rfl (fun c19 => ?_) (fun c19 => ?_)
        · exfalso; omega
        · refine R_bipush (-2) rfl rfl ?_
          exact R_iret rfl rfl rfl ⟨hI, fr, trivial, _, rfl, by rw [show ((-2) : Int32).toInt = (-2) from rfl] <;> omega⟩
      · show RUN d_X9_paste 11 [(0, .inr (.inr (.inl 96))), (1, .inl a0), (2, .inl a1), (3, .inl a2), (4, .inl a3), (5, .inl a4)] [.inl x17] h _
        refine N_if_ne (a := x17.toInt) 17 rfl rfl rfl (fun c20 => ?_) (fun c20 => ?_)
        · exfalso; omega
        · refine R_bipush (-2) rfl rfl ?_
          exact R_iret rfl rfl rfl ⟨hI, fr, trivial, _, rfl, by rw [show ((-2) : Int32).toInt = (-2) from rfl] <;> omega⟩
      · show RUN d_X9_paste 11 [(0, .inr (.inr (.inl 96))), (1, .inl a0), (2, .inl a1), (3, .inl a2), (4, .inl a3), (5, .inl a4)] [.inl x17] h _
        refine N_if_ne (a := x17.toInt) 17 rfl rfl rfl (fun c21 => ?_) (fun c21 => ?_)
        · refine R_aload_n (k := 0) rfl rfl rfl ?_
          refine R_getf_r (j := 57) rfl ft_9_107 sh_96 rfl ?_
          refine R_iload_n (k := 1) rfl rfl rfl ?_
          refine R_iald rfl sh_127 ⟨by omega, by omega⟩ ?_
          refine N_bd (lo := (-1)) (hi := 60) (hI.1 127 _) (fun x22 q23 => ?_)
          refine R_iconst (-1) rfl rfl ?_
          refine N_icmp_eq (a := x22.toInt) (b := (-1)) 37 rfl rfl rfl (by decide) (fun c24 => ?_) (fun c24 => ?_)
          · refine R_bipush (-6) rfl rfl ?_
            exact R_iret rfl rfl rfl ⟨hI, fr, trivial, _, rfl, by rw [show ((-6) : Int32).toInt = (-6) from rfl] <;> omega⟩
          · refine R_aload_n (k := 0) rfl rfl rfl ?_
            refine R_getf_r (j := 57) rfl ft_9_107 sh_96 rfl ?_
            refine R_iload_n (k := 3) rfl rfl rfl ?_
            refine R_iald rfl sh_127 ⟨by omega, by omega⟩ ?_
            refine N_bd (lo := (-1)) (hi := 60) (hI.1 127 _) (fun x25 q26 => ?_)
            refine R_iconst (-1) rfl rfl ?_
            refine N_icmp_ne (a := x25.toInt) (b := (-1)) 40 rfl rfl rfl (by decide) (fun c27 => ?_) (fun c27 => ?_)
            · refine R_aload_n (k := 0) rfl rfl rfl ?_
              refine R_getf_r (j := 58) rfl ft_9_110 sh_96 rfl ?_
              refine R_iload_n (k := 1) rfl rfl rfl ?_
              refine R_iald rfl sh_128 ⟨by omega, by omega⟩ ?_
              refine N_any (fun x28 => ?_)
              refine R_aload_n (k := 0) rfl rfl rfl ?_
              refine R_getf_r (j := 58) rfl ft_9_110 sh_96 rfl ?_
              refine R_iload_n (k := 3) rfl rfl rfl ?_
              refine R_iald rfl sh_128 ⟨by omega, by omega⟩ ?_
              refine N_any (fun x29 => ?_)
              refine N_icmp_eq (a := x28.toInt) (b := x29.toInt) 58 rfl rfl rfl rfl (fun c30 => ?_) (fun c30 => ?_)
              · refine R_iload_n (k := 2) rfl rfl rfl ?_
                refine N_if_lt (a := a1.toInt) 107 rfl rfl rfl (fun c31 => ?_) (fun c31 => ?_)
                · refine R_bipush (-7) rfl rfl ?_
                  exact R_iret rfl rfl rfl ⟨hI, fr, trivial, _, rfl, by rw [show ((-7) : Int32).toInt = (-7) from rfl] <;> omega⟩
                · refine R_iload (k := 4) rfl rfl ?_
                  refine N_if_lt (a := a3.toInt) 107 rfl rfl rfl (fun c32 => ?_) (fun c32 => ?_)
                  · refine R_bipush (-7) rfl rfl ?_
                    exact R_iret rfl rfl rfl ⟨hI, fr, trivial, _, rfl, by rw [show ((-7) : Int32).toInt = (-7) from rfl] <;> omega⟩
                  · refine R_iload (k := 5) rfl rfl ?_
                    refine N_if_lt (a := a4.toInt) 107 rfl rfl rfl (fun c33 => ?_) (fun c33 => ?_)
                    · refine R_bipush (-7) rfl rfl ?_
                      exact R_iret rfl rfl rfl ⟨hI, fr, trivial, _, rfl, by rw [show ((-7) : Int32).toInt = (-7) from rfl] <;> omega⟩
                    · refine R_iload_n (k := 2) rfl rfl rfl ?_
                      refine N_i2l rfl (fun w34 q35 => ?_)
                      refine R_iload (k := 5) rfl rfl ?_
                      refine N_i2l rfl (fun w36 q37 => ?_)
                      refine N_ladd (a := w34.toInt) (b := w36.toInt) rfl rfl rfl (by omega) (fun w38 q39 => ?_)
                      refine R_aload_n (k := 0) rfl rfl rfl ?_
                      refine R_getf_r (j := 57) rfl ft_9_107 sh_96 rfl ?_
                      refine R_iload_n (k := 1) rfl rfl rfl ?_
                      refine R_iald rfl sh_127 ⟨by omega, by omega⟩ ?_
                      refine N_bd (lo := (-1)) (hi := 60) (hI.1 127 _) (fun x40 q41 => ?_)
                      refine N_i2l rfl (fun w42 q43 => ?_)
                      refine N_lcmp (a := w38.toInt) (b := w42.toInt) rfl rfl rfl (fun x44 q45 => ?_)
                      refine N_if_gt (a := x44.toInt) 107 rfl rfl rfl (fun c46 => ?_) (fun c46 => ?_)
                      · refine R_bipush (-7) rfl rfl ?_
                        exact R_iret rfl rfl rfl ⟨hI, fr, trivial, _, rfl, by rw [show ((-7) : Int32).toInt = (-7) from rfl] <;> omega⟩
                      · refine R_iload (k := 4) rfl rfl ?_
                        refine N_i2l rfl (fun w47 q48 => ?_)
                        refine R_iload (k := 5) rfl rfl ?_
                        refine N_i2l rfl (fun w49 q50 => ?_)
                        refine N_ladd (a := w47.toInt) (b := w49.toInt) rfl rfl rfl (by omega) (fun w51 q52 => ?_)
                        refine R_aload_n (k := 0) rfl rfl rfl ?_
                        refine R_getf_r (j := 57) rfl ft_9_107 sh_96 rfl ?_
                        refine R_iload_n (k := 3) rfl rfl rfl ?_
                        refine R_iald rfl sh_127 ⟨by omega, by omega⟩ ?_
                        refine N_bd (lo := (-1)) (hi := 60) (hI.1 127 _) (fun x53 q54 => ?_)
                        refine N_i2l rfl (fun w55 q56 => ?_)
                        refine N_lcmp (a := w51.toInt) (b := w55.toInt) rfl rfl rfl (fun x57 q58 => ?_)
                        refine N_if_le (a := x57.toInt) 110 rfl rfl rfl (fun c59 => ?_) (fun c59 => ?_)
                        · refine R_iconst 0 rfl rfl ?_
                          refine R_istore (k := 6) [(6, .inl 0), (0, .inr (.inr (.inl 96))), (1, .inl a0), (2, .inl a1), (3, .inl a2), (4, .inl a3), (5, .inl a4)] rfl rfl (by decide) ?_
                          have lp61 : ∀ (n60 : Nat) (h62 : PH) (x64 : Int32), INV h62 → FR [129, 130] h h62 → FR [129, 130] h h62 → 0 ≤ x64.toInt ∧ x64.toInt ≤ 60 → x64.toInt ≤ a4.toInt + 0 → (60 - x64.toInt).toNat < n60 → RUN d_X9_paste 113 [(6, .inl x64), (0, .inr (.inr (.inl 96))), (1, .inl a0), (2, .inl a1), (3, .inl a2), (4, .inl a3), (5, .inl a4)] [] h62 (q_X9_paste h a0 a1 a2 a3 a4) := by
                            intro n60
                            induction n60 with
                            | zero => intro h62 x64 m66 m67 m68 m69 m70 hz; exact absurd hz (Nat.not_lt_zero _)
                            | succ n60 ih65 =>
                              intro h62 x64 hI fr fl63 m69 m70 hz
                              refine R_iload (k := 6) rfl rfl ?_
                              refine R_iload (k := 5) rfl rfl ?_
                              refine N_icmp_ge (a := x64.toInt) (b := a4.toInt) 147 rfl rfl rfl rfl (fun c71 => ?_) (fun c71 => ?_)
                              · refine R_iconst 0 rfl rfl ?_
                                refine R_istore (k := 6) [(6, .inl 0), (0, .inr (.inr (.inl 96))), (1, .inl a0), (2, .inl a1), (3, .inl a2), (4, .inl a3), (5, .inl a4)] rfl rfl (by decide) ?_
                                have lp73 : ∀ (n72 : Nat) (h74 : PH) (x76 : Int32), INV h74 → FR [129, 130] h h74 → FR [129] h62 h74 → 0 ≤ x76.toInt ∧ x76.toInt ≤ 60 → x76.toInt ≤ a4.toInt + 0 → (60 - x76.toInt).toNat < n72 → RUN d_X9_paste 150 [(6, .inl x76), (0, .inr (.inr (.inl 96))), (1, .inl a0), (2, .inl a1), (3, .inl a2), (4, .inl a3), (5, .inl a4)] [] h74 (q_X9_paste h a0 a1 a2 a3 a4) := by
                                  intro n72
                                  induction n72 with
                                  | zero => intro h74 x76 m78 m79 m80 m81 m82 hz; exact absurd hz (Nat.not_lt_zero _)
                                  | succ n72 ih77 =>
                                    intro h74 x76 hI fr fl75 m81 m82 hz
                                    have fl63 : FR [129, 130] h h74 := fl63.trans fl75 (by decide)
                                    refine R_iload (k := 6) rfl rfl ?_
                                    refine R_iload (k := 5) rfl rfl ?_
                                    refine N_icmp_ge (a := x76.toInt) (b := a4.toInt) 185 rfl rfl rfl rfl (fun c83 => ?_) (fun c83 => ?_)
                                    · refine R_iconst 0 rfl rfl ?_
                                      exact R_iret rfl rfl rfl ⟨hI, fr, trivial, _, rfl, by rw [show (0 : Int32).toInt = 0 from rfl] <;> omega⟩
                                    · refine R_aload_n (k := 0) rfl rfl rfl ?_
                                      refine R_getf_r (j := 59) rfl ft_9_113 sh_96 rfl ?_
                                      refine R_bipush 60 rfl rfl ?_
                                      refine R_iload_n (k := 3) rfl rfl rfl ?_
                                      refine N_imul (a := 60) (b := a2.toInt) rfl (by decide) rfl (by omega) (fun x84 q85 => ?_)
                                      refine R_iload (k := 4) rfl rfl ?_
                                      refine N_iadd (a := x84.toInt) (b := a3.toInt) rfl rfl rfl (by omega) (fun x86 q87 => ?_)
                                      refine R_iload (k := 6) rfl rfl ?_
                                      refine N_iadd (a := x86.toInt) (b := x76.toInt) rfl rfl rfl (by omega) (fun x88 q89 => ?_)
                                      refine R_aload_n (k := 0) rfl rfl rfl ?_
                                      refine R_getf_r (j := 60) rfl ft_9_117 sh_96 rfl ?_
                                      refine R_iload (k := 6) rfl rfl ?_
                                      refine R_lald rfl sh_130 ⟨by omega, by omega⟩ ?_
                                      refine N_anyL (fun w90 => ?_)
                                      refine K_last (a := x88.toInt) rfl sh_129 rfl ⟨by omega, by omega⟩ hI fr (by decide) (fun h91 g92 hI fr => ?_)
                                      have fl75 : FR [129] h62 h91 := by rw [g92]; exact FR_wL _ _ fl75 (by decide)
                                      have fl63 : FR [129, 130] h h91 := by rw [g92]; exact FR_wL _ _ fl63 (by decide)
                                      refine N_iinc (a := x76.toInt) (c := 1) (fun w => [(6, .inl w), (0, .inr (.inr (.inl 96))), (1, .inl a0), (2, .inl a1), (3, .inl a2), (4, .inl a3), (5, .inl a4)]) rfl rfl (fun _ => rfl) (by decide) rfl (by decide) (by omega) (fun x93 q94 => ?_)
                                      refine R_goto 150 rfl rfl ?_
                                      exact RUN_weak (psub_cons rfl (psub_cons rfl (psub_cons rfl (psub_cons rfl (psub_cons rfl (psub_cons rfl (psub_cons rfl (psub_nil _)))))))) (ih77 h91 x93 hI fr fl75 (by omega) (by omega) (by omega))
                                have k95 : (0 : Int32).toInt = 0 := by decide
                                exact lp73 _ h62 (0 : Int32) hI fr (FR.rf _ _) (by decide) (by omega) (Nat.lt_succ_self _)
                              · refine R_aload_n (k := 0) rfl rfl rfl ?_
                                refine R_getf_r (j := 60) rfl ft_9_117 sh_96 rfl ?_
                                refine R_iload (k := 6) rfl rfl ?_
                                refine R_aload_n (k := 0) rfl rfl rfl ?_
                                refine R_getf_r (j := 59) rfl ft_9_113 sh_96 rfl ?_
                                refine R_bipush 60 rfl rfl ?_
                                refine R_iload_n (k := 1) rfl rfl rfl ?_
                                refine N_imul (a := 60) (b := a0.toInt) rfl (by decide) rfl (by omega) (fun x96 q97 => ?_)
                                refine R_iload_n (k := 2) rfl rfl rfl ?_
                                refine N_iadd (a := x96.toInt) (b := a1.toInt) rfl rfl rfl (by omega) (fun x98 q99 => ?_)
                                refine R_iload (k := 6) rfl rfl ?_
                                refine N_iadd (a := x98.toInt) (b := x64.toInt) rfl rfl rfl (by omega) (fun x100 q101 => ?_)
                                refine R_lald rfl sh_129 ⟨by omega, by omega⟩ ?_
                                refine N_anyL (fun w102 => ?_)
                                refine K_last (a := x64.toInt) rfl sh_130 rfl ⟨by omega, by omega⟩ hI fr (by decide) (fun h103 g104 hI fr => ?_)
                                have fl63 : FR [129, 130] h h103 := by rw [g104]; exact FR_wL _ _ fl63 (by decide)
                                refine N_iinc (a := x64.toInt) (c := 1) (fun w => [(6, .inl w), (0, .inr (.inr (.inl 96))), (1, .inl a0), (2, .inl a1), (3, .inl a2), (4, .inl a3), (5, .inl a4)]) rfl rfl (fun _ => rfl) (by decide) rfl (by decide) (by omega) (fun x105 q106 => ?_)
                                refine R_goto 113 rfl rfl ?_
                                exact RUN_weak (psub_cons rfl (psub_cons rfl (psub_cons rfl (psub_cons rfl (psub_cons rfl (psub_cons rfl (psub_cons rfl (psub_nil _)))))))) (ih65 h103 x105 hI fr fl63 (by omega) (by omega) (by omega))
                          have k107 : (0 : Int32).toInt = 0 := by decide
                          exact lp61 _ h (0 : Int32) hI fr (FR.rf _ _) (by decide) (by omega) (Nat.lt_succ_self _)
                        · refine R_bipush (-7) rfl rfl ?_
                          exact R_iret rfl rfl rfl ⟨hI, fr, trivial, _, rfl, by rw [show ((-7) : Int32).toInt = (-7) from rfl] <;> omega⟩
              · refine R_bipush (-8) rfl rfl ?_
                exact R_iret rfl rfl rfl ⟨hI, fr, trivial, _, rfl, by rw [show ((-8) : Int32).toInt = (-8) from rfl] <;> omega⟩
            · refine R_bipush (-6) rfl rfl ?_
              exact R_iret rfl rfl rfl ⟨hI, fr, trivial, _, rfl, by rw [show ((-6) : Int32).toInt = (-6) from rfl] <;> omega⟩
        · exfalso; omega
