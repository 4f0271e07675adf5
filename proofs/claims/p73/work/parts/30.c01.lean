abbrev q_X1_hasPair (h : PH) (a0 : Int32) : Option PV → PH → Prop := fun r h' => h = h' ∧ ∃ z : Int32, r = some (.inl z) ∧ ((z.toInt = 0 ∧ a0.toInt ≤ (-1)) ∨ (z.toInt = 0 ∧ 0 ≤ a0.toInt ∧ (h.1 17 6).toInt ≤ a0.toInt + 0) ∨ (z.toInt = 1 ∧ 0 ≤ a0.toInt ∧ a0.toInt ≤ 4 ∧ 1 ≤ (h.1 17 6).toInt ∧ (h.1 17 6).toInt ≤ 5 ∧ a0.toInt ≤ (h.1 17 6).toInt + (-1)))
set_option maxHeartbeats 4000000 in
set_option maxRecDepth 100000 in
theorem k_X1_hasPair (h : PH) (hI : INV h) (a0 : Int32) : CALL d_X1_hasPair [.inr (.inr (.inl 16)), .inl a0] h (q_X1_hasPair h a0) := by
  show RUN d_X1_hasPair 0 [(0, .inr (.inr (.inl 16))), (1, .inl a0)] [] h _
  have b1 := i_rng a0
  refine R_iload_n (k := 1) rfl rfl rfl ?_
  refine N_if_lt (a := a0.toInt) 19 rfl rfl rfl (fun c2 => ?_) (fun c2 => ?_)
  · refine R_iconst 0 rfl rfl ?_
    exact R_iret rfl rfl rfl ⟨rfl, _, rfl, by rw [show (0 : Int32).toInt = 0 from rfl]; omega⟩
  · refine R_iload_n (k := 1) rfl rfl rfl ?_
    refine R_aload_n (k := 0) rfl rfl rfl ?_
    refine R_getf_r (j := 0) rfl ft_1_9 sh_16 rfl ?_
    refine R_bipush 6 rfl rfl ?_
    refine R_iald rfl sh_17 (by decide) ?_
    have b3 : (0 : Int) ≤ (h.1 17 6).toInt ∧ (h.1 17 6).toInt ≤ 5 := hI.1 17 6
    show RUN d_X1_hasPair 12 [(0, .inr (.inr (.inl 16))), (1, .inl a0)] [.inl (h.1 17 6), .inl a0] h _
    refine N_icmp_ge (a := a0.toInt) (b := (h.1 17 6).toInt) 19 rfl rfl rfl rfl (fun c4 => ?_) (fun c4 => ?_)
    · refine R_iconst 0 rfl rfl ?_
      exact R_iret rfl rfl rfl ⟨rfl, _, rfl, by rw [show (0 : Int32).toInt = 0 from rfl]; omega⟩
    · refine R_iconst 1 rfl rfl ?_
      refine R_goto 20 rfl rfl ?_
      exact R_iret rfl rfl rfl ⟨rfl, _, rfl, by rw [show (1 : Int32).toInt = 1 from rfl]; omega⟩
abbrev q_X8_pair (h : PH) (a0 : Int32) (a1 : Int32) : Option PV → PH → Prop := fun r h' => h = h' ∧ ∃ z : Int32, r = some (.inl z) ∧ ((True))
set_option maxHeartbeats 4000000 in
set_option maxRecDepth 100000 in
theorem k_X8_pair (h : PH) (hI : INV h) (a0 : Int32) (a1 : Int32) : CALL d_X8_pair [.inr (.inr (.inl 0)), .inl a0, .inl a1] h (q_X8_pair h a0 a1) := by
  show RUN d_X8_pair 0 [(0, .inr (.inr (.inl 0))), (1, .inl a0), (2, .inl a1)] [] h _
  have b1 := i_rng a0
  have b2 := i_rng a1
  refine R_aload_n (k := 0) rfl rfl rfl ?_
  refine R_getf_r (j := 3) rfl ft_8_28 sh_0 rfl ?_
  refine R_iload_n (k := 1) rfl rfl rfl ?_
  have b3 : (0 : Int) ≤ (h.1 17 6).toInt ∧ (h.1 17 6).toInt ≤ 5 := hI.1 17 6
  refine R_callV (v := .inr (.inr (.inl 16))) (As := [.inl a0]) (rest := []) rfl mt_8_i131 pp_X1_hasPair (by decide) rfl rfl rfl (Nat.le_of_ble_eq_true rfl) (Nat.le_of_ble_eq_true rfl) ((k_X1_hasPair h hI a0).mono (fun r4 h5 p6 => ?_))
  obtain ⟨rfl, x7, rfl, q8 | q8 | q8⟩ := p6
  · show RUN d_X8_pair 8 [(0, .inr (.inr (.inl 0))), (1, .inl a0), (2, .inl a1)] [.inl x7] h _
    refine N_if_eq (a := x7.toInt) 20 rfl rfl rfl (fun c9 => ?_) (fun c9 => ?_)
    · refine R_bipush (-2) rfl rfl ?_
      exact R_iret rfl rfl rfl ⟨rfl, _, rfl, trivial⟩
    · exfalso; omega
  · show RUN d_X8_pair 8 [(0, .inr (.inr (.inl 0))), (1, .inl a0), (2, .inl a1)] [.inl x7] h _
    refine N_if_eq (a := x7.toInt) 20 rfl rfl rfl (fun c10 => ?_) (fun c10 => ?_)
    · refine R_bipush (-2) rfl rfl ?_
      exact R_iret rfl rfl rfl ⟨rfl, _, rfl, trivial⟩
    · exfalso; omega
  · show RUN d_X8_pair 8 [(0, .inr (.inr (.inl 0))), (1, .inl a0), (2, .inl a1)] [.inl x7] h _
    refine N_if_eq (a := x7.toInt) 20 rfl rfl rfl (fun c11 => ?_) (fun c11 => ?_)
    · exfalso; omega
    · refine R_iload_n (k := 2) rfl rfl rfl ?_
      refine N_if_lt (a := a1.toInt) 20 rfl rfl rfl (fun c12 => ?_) (fun c12 => ?_)
      · refine R_bipush (-2) rfl rfl ?_
        exact R_iret rfl rfl rfl ⟨rfl, _, rfl, trivial⟩
      · refine R_iload_n (k := 2) rfl rfl rfl ?_
        refine R_iconst 2 rfl rfl ?_
        refine N_icmp_le (a := a1.toInt) (b := 2) 23 rfl rfl rfl (by decide) (fun c13 => ?_) (fun c13 => ?_)
        · refine R_iload_n (k := 2) rfl rfl rfl ?_
          refine R_iconst 2 rfl rfl ?_
          refine N_icmp_ne (a := a1.toInt) (b := 2) 38 rfl rfl rfl (by decide) (fun c14 => ?_) (fun c14 => ?_)
          · refine R_iload_n (k := 2) rfl rfl rfl ?_
            refine N_if_ne (a := a1.toInt) 54 rfl rfl rfl (fun c15 => ?_) (fun c15 => ?_)
            · refine R_aload_n (k := 0) rfl rfl rfl ?_
              refine R_getf_r (j := 3) rfl ft_8_28 sh_0 rfl ?_
              refine R_getf_r (j := 6) rfl ft_8_140 sh_16 rfl ?_
              refine R_iload_n (k := 1) rfl rfl rfl ?_
              refine R_iald rfl sh_23 ⟨by omega, by omega⟩ ?_
              refine N_bd (lo := 0) (hi := 5) (hI.1 23 _) (fun x16 q17 => ?_)
              exact R_iret rfl rfl rfl ⟨rfl, _, rfl, trivial⟩
            · refine R_aload_n (k := 0) rfl rfl rfl ?_
              refine R_getf_r (j := 3) rfl ft_8_28 sh_0 rfl ?_
              refine R_getf_r (j := 5) rfl ft_8_137 sh_16 rfl ?_
              refine R_iload_n (k := 1) rfl rfl rfl ?_
              refine R_iald rfl sh_22 ⟨by omega, by omega⟩ ?_
              refine N_bd (lo := 0) (hi := 5) (hI.1 22 _) (fun x18 q19 => ?_)
              refine R_goto 63 rfl rfl ?_
              exact R_iret rfl rfl rfl ⟨rfl, _, rfl, trivial⟩
          · refine R_aload_n (k := 0) rfl rfl rfl ?_
            refine R_getf_r (j := 3) rfl ft_8_28 sh_0 rfl ?_
            refine R_getf_r (j := 7) rfl ft_8_134 sh_16 rfl ?_
            refine R_iload_n (k := 1) rfl rfl rfl ?_
            refine R_iald rfl sh_24 ⟨by omega, by omega⟩ ?_
            refine N_any (fun x20 => ?_)
            exact R_iret rfl rfl rfl ⟨rfl, _, rfl, trivial⟩
        · refine R_bipush (-2) rfl rfl ?_
          exact R_iret rfl rfl rfl ⟨rfl, _, rfl, trivial⟩
abbrev q_X9_pair (h : PH) (a0 : Int32) (a1 : Int32) : Option PV → PH → Prop := fun r h' => h = h' ∧ ∃ z : Int32, r = some (.inl z) ∧ ((True))
set_option maxHeartbeats 4000000 in
set_option maxRecDepth 100000 in
theorem k_X9_pair (h : PH) (hI : INV h) (a0 : Int32) (a1 : Int32) : CALL d_X9_pair [.inr (.inr (.inl 96)), .inl a0, .inl a1] h (q_X9_pair h a0 a1) := by
  show RUN d_X9_pair 0 [(0, .inr (.inr (.inl 96))), (1, .inl a0), (2, .inl a1)] [] h _
  have b1 := i_rng a0
  have b2 := i_rng a1
  refine R_iload_n (k := 1) rfl rfl rfl ?_
  refine N_i2l rfl (fun w3 q4 => ?_)
  refine R_lconst 0 rfl rfl ?_
  refine R_aload_n (k := 0) rfl rfl rfl ?_
  refine R_getf_r (j := 1) rfl ft_9_9 sh_96 rfl ?_
  refine R_bipush 6 rfl rfl ?_
  refine R_iald rfl sh_97 (by decide) ?_
  have b5 : (0 : Int) ≤ (h.1 97 6).toInt ∧ (h.1 97 6).toInt ≤ 5 := hI.1 97 6
  show RUN d_X9_pair 10 [(0, .inr (.inr (.inl 96))), (1, .inl a0), (2, .inl a1)] [.inl (h.1 97 6), .inr (.inl 0), .inr (.inl w3)] h _
  refine R_iconst 1 rfl rfl ?_
  refine N_isub (a := (h.1 97 6).toInt) (b := 1) rfl rfl (by decide) (by omega) (fun x6 q7 => ?_)
  refine N_i2l rfl (fun w8 q9 => ?_)
  have k10 : (0 : Int64).toInt = 0 := by decide
  refine R_callS (As := [.inr (.inl w3), .inr (.inl 0), .inr (.inl w8)]) (rest := []) rfl mt_9_i125 (by decide) pp_X9_in (by decide) rfl rfl (Nat.le_of_ble_eq_true rfl) (Nat.le_of_ble_eq_true rfl) ((k_X9_in h hI w3 (0 : Int64) w8).mono (fun r11 h12 p13 => ?_))
  obtain ⟨rfl, x14, rfl, q15 | q15 | q15⟩ := p13
  · show RUN d_X9_pair 16 [(0, .inr (.inr (.inl 96))), (1, .inl a0), (2, .inl a1)] [.inl x14] h _
    refine N_if_eq (a := x14.toInt) 47 rfl rfl rfl (fun c16 => ?_) (fun c16 => ?_)
    · refine R_bipush (-2) rfl rfl ?_
      exact R_iret rfl rfl rfl ⟨rfl, _, rfl, trivial⟩
    · exfalso; omega
  · show RUN d_X9_pair 16 [(0, .inr (.inr (.inl 96))), (1, .inl a0), (2, .inl a1)] [.inl x14] h _
    refine N_if_eq (a := x14.toInt) 47 rfl rfl rfl (fun c17 => ?_) (fun c17 => ?_)
    · refine R_bipush (-2) rfl rfl ?_
      exact R_iret rfl rfl rfl ⟨rfl, _, rfl, trivial⟩
    · exfalso; omega
  · show RUN d_X9_pair 16 [(0, .inr (.inr (.inl 96))), (1, .inl a0), (2, .inl a1)] [.inl x14] h _
    refine N_if_eq (a := x14.toInt) 47 rfl rfl rfl (fun c18 => ?_) (fun c18 => ?_)
    · exfalso; omega
    · refine R_iload_n (k := 2) rfl rfl rfl ?_
      refine N_i2l rfl (fun w19 q20 => ?_)
      refine R_lconst 0 rfl rfl ?_
      refine R_ldc2 (x := 2) rfl kt_9_123 ?_
      have k21 : (0 : Int64).toInt = 0 := by decide
      have k22 : (2 : Int64).toInt = 2 := by decide
      refine R_callS (As := [.inr (.inl w19), .inr (.inl 0), .inr (.inl 2)]) (rest := []) rfl mt_9_i125 (by decide) pp_X9_in (by decide) rfl rfl (Nat.le_of_ble_eq_true rfl) (Nat.le_of_ble_eq_true rfl) ((k_X9_in h hI w19 (0 : Int64) (2 : Int64)).mono (fun r23 h24 p25 => ?_))
      obtain ⟨rfl, x26, rfl, q27 | q27 | q27⟩ := p25
      · show RUN d_X9_pair 28 [(0, .inr (.inr (.inl 96))), (1, .inl a0), (2, .inl a1)] [.inl x26] h _
        refine N_if_eq (a := x26.toInt) 47 rfl rfl rfl (fun c28 => ?_) (fun c28 => ?_)
        · refine R_bipush (-2) rfl rfl ?_
          exact R_iret rfl rfl rfl ⟨rfl, _, rfl, trivial⟩
        · exfalso; omega
      · show RUN d_X9_pair 28 [(0, .inr (.inr (.inl 96))), (1, .inl a0), (2, .inl a1)] [.inl x26] h _
        refine N_if_eq (a := x26.toInt) 47 rfl rfl rfl (fun c29 => ?_) (fun c29 => ?_)
        · refine R_bipush (-2) rfl rfl ?_
          exact R_iret rfl rfl rfl ⟨rfl, _, rfl, trivial⟩
        · exfalso; omega
      · show RUN d_X9_pair 28 [(0, .inr (.inr (.inl 96))), (1, .inl a0), (2, .inl a1)] [.inl x26] h _
        refine N_if_eq (a := x26.toInt) 47 rfl rfl rfl (fun c30 => ?_) (fun c30 => ?_)
        · exfalso; omega
        · refine R_aload_n (k := 0) rfl rfl rfl ?_
          refine R_getf_r (j := 1) rfl ft_9_9 sh_96 rfl ?_
          refine R_bipush 23 rfl rfl ?_
          refine R_iconst 3 rfl rfl ?_
          refine R_iload_n (k := 1) rfl rfl rfl ?_
          refine N_imul (a := 3) (b := a0.toInt) rfl (by decide) rfl (by omega) (fun x31 q32 => ?_)
          refine N_iadd (a := 23) (b := x31.toInt) rfl (by decide) rfl (by omega) (fun x33 q34 => ?_)
          refine R_iload_n (k := 2) rfl rfl rfl ?_
          refine N_iadd (a := x33.toInt) (b := a1.toInt) rfl rfl rfl (by omega) (fun x35 q36 => ?_)
          refine R_iald rfl sh_97 ⟨by omega, by omega⟩ ?_
          refine N_any (fun x37 => ?_)
          refine R_goto 49 rfl rfl ?_
          exact R_iret rfl rfl rfl ⟨rfl, _, rfl, trivial⟩
abbrev q_X1_keptAt (h : PH) (a0 : Int32) (a1 : Int32) (a2 : Int32) : Option PV → PH → Prop := fun r h' => h = h' ∧ ∃ z : Int32, r = some (.inl z) ∧ ((z.toInt = 1) ∨ (z.toInt = 0))
set_option maxHeartbeats 4000000 in
set_option maxRecDepth 100000 in
theorem k_X1_keptAt (h : PH) (hI : INV h) (a0 : Int32) (a1 : Int32) (a2 : Int32) (h0a : 0 ≤ a0.toInt ∧ a0.toInt ≤ 4) : CALL d_X1_keptAt [.inr (.inr (.inl 16)), .inl a0, .inl a1, .inl a2] h (q_X1_keptAt h a0 a1 a2) := by
  show RUN d_X1_keptAt 0 [(0, .inr (.inr (.inl 16))), (1, .inl a0), (2, .inl a1), (3, .inl a2)] [] h _
  have b1 := i_rng a1
  have b2 := i_rng a2
  refine R_iload_n (k := 2) rfl rfl rfl ?_
  refine R_iload_n (k := 3) rfl rfl rfl ?_
  have b3 := i_rng a1
  have b4 := i_rng a2
  refine R_isub rfl ?_
  refine N_any (fun x5 => ?_)
  refine R_nat (b := 2) rfl mt_1_i52 rfl ⟨by decide, by decide, Nat.le_of_ble_eq_true rfl⟩ ?_
  refine N_any (fun x6 => ?_)
  refine R_iconst 1 rfl rfl ?_
  refine N_icmp_ne (a := x6.toInt) (b := 1) 14 rfl rfl rfl (by decide) (fun c7 => ?_) (fun c7 => ?_)
  · refine R_iconst 0 rfl rfl ?_
    refine R_istore (k := 4) [(4, .inl 0), (0, .inr (.inr (.inl 16))), (1, .inl a0), (2, .inl a1), (3, .inl a2)] rfl rfl (by decide) ?_
    refine R_iload (k := 4) rfl rfl ?_
    refine R_aload_n (k := 0) rfl rfl rfl ?_
    refine R_getf_r (j := 7) rfl ft_1_34 sh_16 rfl ?_
    refine R_iload_n (k := 1) rfl rfl rfl ?_
    refine R_iald rfl sh_24 ⟨by omega, by omega⟩ ?_
    refine N_any (fun x8 => ?_)
    refine R_iconst 1 rfl rfl ?_
    refine N_icmp_ne (a := x8.toInt) (b := 1) 33 rfl rfl rfl (by decide) (fun c9 => ?_) (fun c9 => ?_)
    · refine R_iconst 0 rfl rfl ?_
      refine N_icmp_ne (a := 0) (b := 0) 41 rfl rfl (by decide) (by decide) (fun c10 => ?_) (fun c10 => ?_)
      · exfalso; omega
      · refine R_iconst 1 rfl rfl ?_
        refine R_goto 42 rfl rfl ?_
        exact R_iret rfl rfl rfl ⟨rfl, _, rfl, by rw [show (1 : Int32).toInt = 1 from rfl]; omega⟩
    · refine R_iconst 1 rfl rfl ?_
      refine R_goto 34 rfl rfl ?_
      refine N_icmp_ne (a := 0) (b := 1) 41 rfl rfl (by decide) (by decide) (fun c11 => ?_) (fun c11 => ?_)
      · refine R_iconst 0 rfl rfl ?_
        exact R_iret rfl rfl rfl ⟨rfl, _, rfl, by rw [show (0 : Int32).toInt = 0 from rfl]; omega⟩
      · exfalso; omega
  · refine R_iconst 1 rfl rfl ?_
    refine R_goto 15 rfl rfl ?_
    refine R_istore (k := 4) [(4, .inl 1), (0, .inr (.inr (.inl 16))), (1, .inl a0), (2, .inl a1), (3, .inl a2)] rfl rfl (by decide) ?_
    refine R_iload (k := 4) rfl rfl ?_
    refine R_aload_n (k := 0) rfl rfl rfl ?_
    refine R_getf_r (j := 7) rfl ft_1_34 sh_16 rfl ?_
    refine R_iload_n (k := 1) rfl rfl rfl ?_
    refine R_iald rfl sh_24 ⟨by omega, by omega⟩ ?_
    refine N_any (fun x12 => ?_)
    refine R_iconst 1 rfl rfl ?_
    refine N_icmp_ne (a := x12.toInt) (b := 1) 33 rfl rfl rfl (by decide) (fun c13 => ?_) (fun c13 => ?_)
    · refine R_iconst 0 rfl rfl ?_
      refine N_icmp_ne (a := 1) (b := 0) 41 rfl rfl (by decide) (by decide) (fun c14 => ?_) (fun c14 => ?_)
      · refine R_iconst 0 rfl rfl ?_
        exact R_iret rfl rfl rfl ⟨rfl, _, rfl, by rw [show (0 : Int32).toInt = 0 from rfl]; omega⟩
      · exfalso; omega
    · refine R_iconst 1 rfl rfl ?_
      refine R_goto 34 rfl rfl ?_
      refine N_icmp_ne (a := 1) (b := 1) 41 rfl rfl (by decide) (by decide) (fun c15 => ?_) (fun c15 => ?_)
      · exfalso; omega
      · refine R_iconst 1 rfl rfl ?_
        refine R_goto 42 rfl rfl ?_
        exact R_iret rfl rfl rfl ⟨rfl, _, rfl, by rw [show (1 : Int32).toInt = 1 from rfl]; omega⟩
abbrev q_X1_keptAsTold (h : PH) (a0 : Int32) : Option PV → PH → Prop := fun r h' => h = h' ∧ ∃ z : Int32, r = some (.inl z) ∧ ((z.toInt = 1) ∨ (z.toInt = 0))
set_option maxHeartbeats 4000000 in
set_option maxRecDepth 100000 in
theorem k_X1_keptAsTold (h : PH) (hI : INV h) (a0 : Int32) (h0a : 0 ≤ a0.toInt ∧ a0.toInt ≤ 4) : CALL d_X1_keptAsTold [.inr (.inr (.inl 16)), .inl a0] h (q_X1_keptAsTold h a0) := by
  show RUN d_X1_keptAsTold 0 [(0, .inr (.inr (.inl 16))), (1, .inl a0)] [] h _
  refine R_aload_n (k := 0) rfl rfl rfl ?_
  refine R_iload_n (k := 1) rfl rfl rfl ?_
  refine R_aload_n (k := 0) rfl rfl rfl ?_
  refine R_getf_r (j := 5) rfl ft_1_28 sh_16 rfl ?_
  refine R_iload_n (k := 1) rfl rfl rfl ?_
  refine R_iald rfl sh_22 ⟨by omega, by omega⟩ ?_
  refine N_bd (lo := 0) (hi := 5) (hI.1 22 _) (fun x1 q2 => ?_)
  refine R_aload_n (k := 0) rfl rfl rfl ?_
  refine R_getf_r (j := 6) rfl ft_1_31 sh_16 rfl ?_
  refine R_iload_n (k := 1) rfl rfl rfl ?_
  refine R_iald rfl sh_23 ⟨by omega, by omega⟩ ?_
  refine N_bd (lo := 0) (hi := 5) (hI.1 23 _) (fun x3 q4 => ?_)
  refine R_callV (v := .inr (.inr (.inl 16))) (As := [.inl a0, .inl x1, .inl x3]) (rest := []) rfl mt_1_i58 pp_X1_keptAt (by decide) rfl rfl rfl (Nat.le_of_ble_eq_true rfl) (Nat.le_of_ble_eq_true rfl) ((k_X1_keptAt h hI a0 x1 x3 (by omega)).mono (fun r5 h6 p7 => ?_))
  obtain ⟨rfl, x8, rfl, q9 | q9⟩ := p7
  · show RUN d_X1_keptAsTold 17 [(0, .inr (.inr (.inl 16))), (1, .inl a0)] [.inl x8] h _
    exact R_iret rfl rfl (nar_z (by omega)) ⟨rfl, _, rfl, by omega⟩
  · show RUN d_X1_keptAsTold 17 [(0, .inr (.inr (.inl 16))), (1, .inl a0)] [.inl x8] h _
    exact R_iret rfl rfl (nar_z (by omega)) ⟨rfl, _, rfl, by omega⟩
abbrev q_X8_keeps (h : PH) (a0 : Int32) : Option PV → PH → Prop := fun r h' => h = h' ∧ ∃ z : Int32, r = some (.inl z) ∧ (((-2) ≤ z.toInt ∧ z.toInt ≤ 1))
set_option maxHeartbeats 4000000 in
set_option maxRecDepth 100000 in
theorem k_X8_keeps (h : PH) (hI : INV h) (a0 : Int32) : CALL d_X8_keeps [.inr (.inr (.inl 0)), .inl a0] h (q_X8_keeps h a0) := by
  show RUN d_X8_keeps 0 [(0, .inr (.inr (.inl 0))), (1, .inl a0)] [] h _
  have b1 := i_rng a0
  refine R_aload_n (k := 0) rfl rfl rfl ?_
  refine R_getf_r (j := 3) rfl ft_8_28 sh_0 rfl ?_
  refine R_iload_n (k := 1) rfl rfl rfl ?_
  have b2 : (0 : Int) ≤ (h.1 17 6).toInt ∧ (h.1 17 6).toInt ≤ 5 := hI.1 17 6
  refine R_callV (v := .inr (.inr (.inl 16))) (As := [.inl a0]) (rest := []) rfl mt_8_i131 pp_X1_hasPair (by decide) rfl rfl rfl (Nat.le_of_ble_eq_true rfl) (Nat.le_of_ble_eq_true rfl) ((k_X1_hasPair h hI a0).mono (fun r3 h4 p5 => ?_))
  obtain ⟨rfl, x6, rfl, q7 | q7 | q7⟩ := p5
  · show RUN d_X8_keeps 8 [(0, .inr (.inr (.inl 0))), (1, .inl a0)] [.inl x6] h _
    refine N_if_ne (a := x6.toInt) 14 rfl rfl rfl (fun c8 => ?_) (fun c8 => ?_)
    · exfalso; omega
    · refine R_bipush (-2) rfl rfl ?_
      exact R_iret rfl rfl rfl ⟨rfl, _, rfl, by rw [show ((-2) : Int32).toInt = (-2) from rfl]; omega⟩
  · show RUN d_X8_keeps 8 [(0, .inr (.inr (.inl 0))), (1, .inl a0)] [.inl x6] h _
    refine N_if_ne (a := x6.toInt) 14 rfl rfl rfl (fun c9 => ?_) (fun c9 => ?_)
    · exfalso; omega
    · refine R_bipush (-2) rfl rfl ?_
      exact R_iret rfl rfl rfl ⟨rfl, _, rfl, by rw [show ((-2) : Int32).toInt = (-2) from rfl]; omega⟩
  · show RUN d_X8_keeps 8 [(0, .inr (.inr (.inl 0))), (1, .inl a0)] [.inl x6] h _
    refine N_if_ne (a := x6.toInt) 14 rfl rfl rfl (fun c10 => ?_) (fun c10 => ?_)
    · refine R_aload_n (k := 0) rfl rfl rfl ?_
      refine R_getf_r (j := 3) rfl ft_8_28 sh_0 rfl ?_
      refine R_iload_n (k := 1) rfl rfl rfl ?_
      refine R_callV (v := .inr (.inr (.inl 16))) (As := [.inl a0]) (rest := []) rfl mt_8_i143 pp_X1_keptAsTold (by decide) rfl rfl rfl (Nat.le_of_ble_eq_true rfl) (Nat.le_of_ble_eq_true rfl) ((k_X1_keptAsTold h hI a0 (by omega)).mono (fun r11 h12 p13 => ?_))
      obtain ⟨rfl, x14, rfl, q15 | q15⟩ := p13
      · show RUN d_X8_keeps 22 [(0, .inr (.inr (.inl 0))), (1, .inl a0)] [.inl x14] h _
        refine N_if_eq (a := x14.toInt) 29 rfl rfl rfl (fun c16 => ?_) (fun c16 => ?_)
        · exfalso; omega
        · refine R_iconst 1 rfl rfl ?_
          refine R_goto 30 rfl rfl ?_
          exact R_iret rfl rfl rfl ⟨rfl, _, rfl, by rw [show (1 : Int32).toInt = 1 from rfl]; omega⟩
      · show RUN d_X8_keeps 22 [(0, .inr (.inr (.inl 0))), (1, .inl a0)] [.inl x14] h _
        refine N_if_eq (a := x14.toInt) 29 rfl rfl rfl (fun c17 => ?_) (fun c17 => ?_)
        · refine R_iconst 0 rfl rfl ?_
          exact R_iret rfl rfl rfl ⟨rfl, _, rfl, by rw [show (0 : Int32).toInt = 0 from rfl]; omega⟩
        · exfalso; omega
    · exfalso; omega
abbrev q_X9_placeIn (h : PH) (a0 : Int32) : Option PV → PH → Prop := fun r h' => h = h' ∧ ∃ z : Int32, r = some (.inl z) ∧ (((-1) ≤ z.toInt ∧ z.toInt ≤ 5))
set_option maxHeartbeats 4000000 in
set_option maxRecDepth 100000 in
theorem k_X9_placeIn (h : PH) (hI : INV h) (a0 : Int32) : CALL d_X9_placeIn [.inr (.inr (.inl 96)), .inl a0] h (q_X9_placeIn h a0) := by
  show RUN d_X9_placeIn 0 [(0, .inr (.inr (.inl 96))), (1, .inl a0)] [] h _
  have b1 := i_rng a0
  refine R_iconst 0 rfl rfl ?_
  refine R_istore_n (k := 2) rfl [(2, .inl 0), (0, .inr (.inr (.inl 96))), (1, .inl a0)] rfl rfl (by decide) ?_
  have lp3 : ∀ (n2 : Nat) (x4 : Int32), 0 ≤ x4.toInt ∧ x4.toInt ≤ 6 → (6 - x4.toInt).toNat < n2 → RUN d_X9_placeIn 2 [(2, .inl x4), (0, .inr (.inr (.inl 96))), (1, .inl a0)] [] h (q_X9_placeIn h a0) := by
    intro n2
    induction n2 with
    | zero => intro x4 m6 hz; exact absurd hz (Nat.not_lt_zero _)
    | succ n2 ih5 =>
      intro x4 m6 hz
      refine R_iload_n (k := 2) rfl rfl rfl ?_
      refine R_aload_n (k := 0) rfl rfl rfl ?_
      have b7 : (0 : Int) ≤ (h.1 97 5).toInt ∧ (h.1 97 5).toInt ≤ 6 := hI.1 97 5
      have b8 : (0 : Int) ≤ (h.1 97 0).toInt ∧ (h.1 97 0).toInt ≤ 60 := hI.1 97 0
      have e9 : 0 < (h.1 97 5).toInt → 1 ≤ (h.1 97 0).toInt := hI.2.2.2.2.2.1.2.2
      refine R_callV (v := .inr (.inr (.inl 96))) (As := []) (rest := [.inl x4]) rfl mt_9_i133 pp_X9_hands (by decide) rfl rfl rfl (Nat.le_of_ble_eq_true rfl) (Nat.le_of_ble_eq_true rfl) ((k_X9_hands h hI).mono (fun r10 h11 p12 => ?_))
      obtain ⟨rfl, x13, rfl, q14⟩ := p12
      show RUN d_X9_placeIn 7 [(2, .inl x4), (0, .inr (.inr (.inl 96))), (1, .inl a0)] [.inl x13, .inl x4] h _
      refine N_icmp_ge (a := x4.toInt) (b := x13.toInt) 28 rfl rfl rfl rfl (fun c15 => ?_) (fun c15 => ?_)
      · refine R_iconst (-1) rfl rfl ?_
        exact R_iret rfl rfl rfl ⟨rfl, _, rfl, by rw [show ((-1) : Int32).toInt = (-1) from rfl]; omega⟩
      · refine R_aload_n (k := 0) rfl rfl rfl ?_
        refine R_getf_r (j := 17) rfl ft_9_40 sh_96 rfl ?_
        refine R_iload_n (k := 2) rfl rfl rfl ?_
        refine R_iald rfl sh_105 ⟨by omega, by omega⟩ ?_
        refine N_bd (lo := 0) (hi := 5) (hI.1 105 _) (fun x16 q17 => ?_)
        refine R_iload_n (k := 1) rfl rfl rfl ?_
        refine N_icmp_ne (a := x16.toInt) (b := a0.toInt) 22 rfl rfl rfl rfl (fun c18 => ?_) (fun c18 => ?_)
        · refine N_iinc (a := x4.toInt) (c := 1) (fun w => [(2, .inl w), (0, .inr (.inr (.inl 96))), (1, .inl a0)]) rfl rfl (fun _ => rfl) (by decide) rfl (by decide) (by omega) (fun x19 q20 => ?_)
          refine R_goto 2 rfl rfl ?_
          exact RUN_weak (psub_cons rfl (psub_cons rfl (psub_cons rfl (psub_nil _)))) (ih5 x19 (by omega) (by omega))
        · refine R_iload_n (k := 2) rfl rfl rfl ?_
          exact R_iret rfl rfl rfl ⟨rfl, _, rfl, by omega⟩
  exact lp3 _ (0 : Int32) (by decide) (Nat.lt_succ_self _)
abbrev q_X9_keepsPair (h : PH) (a0 : Int32) : Option PV → PH → Prop := fun r h' => h = h' ∧ ∃ z : Int32, r = some (.inl z) ∧ ((z.toInt = 1) ∨ (z.toInt = 0))
set_option maxHeartbeats 4000000 in
set_option maxRecDepth 100000 in
theorem k_X9_keepsPair (h : PH) (hI : INV h) (a0 : Int32) (h0a : 0 ≤ a0.toInt ∧ a0.toInt ≤ 4) : CALL d_X9_keepsPair [.inr (.inr (.inl 96)), .inl a0] h (q_X9_keepsPair h a0) := by
  show RUN d_X9_keepsPair 0 [(0, .inr (.inr (.inl 96))), (1, .inl a0)] [] h _
  refine R_aload_n (k := 0) rfl rfl rfl ?_
  refine R_aload_n (k := 0) rfl rfl rfl ?_
  refine R_getf_r (j := 1) rfl ft_9_9 sh_96 rfl ?_
  refine R_bipush 23 rfl rfl ?_
  refine R_iconst 3 rfl rfl ?_
  refine R_iload_n (k := 1) rfl rfl rfl ?_
  refine N_imul (a := 3) (b := a0.toInt) rfl (by decide) rfl (by omega) (fun x1 q2 => ?_)
  refine N_iadd (a := 23) (b := x1.toInt) rfl (by decide) rfl (by omega) (fun x3 q4 => ?_)
  refine R_iald rfl sh_97 ⟨by omega, by omega⟩ ?_
  refine N_any (fun x5 => ?_)
  refine R_callV (v := .inr (.inr (.inl 96))) (As := [.inl x5]) (rest := []) rfl mt_9_i394 pp_X9_placeIn (by decide) rfl rfl rfl (Nat.le_of_ble_eq_true rfl) (Nat.le_of_ble_eq_true rfl) ((k_X9_placeIn h hI x5).mono (fun r6 h7 p8 => ?_))
  obtain ⟨rfl, x9, rfl, q10⟩ := p8
  show RUN d_X9_keepsPair 15 [(0, .inr (.inr (.inl 96))), (1, .inl a0)] [.inl x9] h _
  refine R_aload_n (k := 0) rfl rfl rfl ?_
  refine R_aload_n (k := 0) rfl rfl rfl ?_
  refine R_getf_r (j := 1) rfl ft_9_9 sh_96 rfl ?_
  refine R_bipush 23 rfl rfl ?_
  refine R_iconst 3 rfl rfl ?_
  refine R_iload_n (k := 1) rfl rfl rfl ?_
  refine N_imul (a := 3) (b := a0.toInt) rfl (by decide) rfl (by omega) (fun x11 q12 => ?_)
  refine N_iadd (a := 23) (b := x11.toInt) rfl (by decide) rfl (by omega) (fun x13 q14 => ?_)
  refine R_iconst 1 rfl rfl ?_
  refine N_iadd (a := x13.toInt) (b := 1) rfl rfl (by decide) (by omega) (fun x15 q16 => ?_)
  refine R_iald rfl sh_97 ⟨by omega, by omega⟩ ?_
  refine N_any (fun x17 => ?_)
  refine R_callV (v := .inr (.inr (.inl 96))) (As := [.inl x17]) (rest := [.inl x9]) rfl mt_9_i394 pp_X9_placeIn (by decide) rfl rfl rfl (Nat.le_of_ble_eq_true rfl) (Nat.le_of_ble_eq_true rfl) ((k_X9_placeIn h hI x17).mono (fun r18 h19 p20 => ?_))
  obtain ⟨rfl, x21, rfl, q22⟩ := p20
  show RUN d_X9_keepsPair 32 [(0, .inr (.inr (.inl 96))), (1, .inl a0)] [.inl x21, .inl x9] h _
  refine N_isub (a := x9.toInt) (b := x21.toInt) rfl rfl rfl (by omega) (fun x23 q24 => ?_)
  refine R_nat (b := 2) rfl mt_9_i397 rfl ⟨by decide, by decide, Nat.le_of_ble_eq_true rfl⟩ ?_
  refine N_any (fun x25 => ?_)
  refine R_istore_n (k := 2) rfl [(2, .inl x25), (0, .inr (.inr (.inl 96))), (1, .inl a0)] rfl rfl (by decide) ?_
  refine R_iload_n (k := 2) rfl rfl rfl ?_
  refine R_iconst 1 rfl rfl ?_
  refine N_icmp_ne (a := x25.toInt) (b := 1) 46 rfl rfl rfl (by decide) (fun c26 => ?_) (fun c26 => ?_)
  · refine R_iconst 0 rfl rfl ?_
    refine R_aload_n (k := 0) rfl rfl rfl ?_
    refine R_getf_r (j := 1) rfl ft_9_9 sh_96 rfl ?_
    refine R_bipush 23 rfl rfl ?_
    refine R_iconst 3 rfl rfl ?_
    refine R_iload_n (k := 1) rfl rfl rfl ?_
    refine N_imul (a := 3) (b := a0.toInt) rfl (by decide) rfl (by omega) (fun x27 q28 => ?_)
    refine N_iadd (a := 23) (b := x27.toInt) rfl (by decide) rfl (by omega) (fun x29 q30 => ?_)
    refine R_iconst 2 rfl rfl ?_
    refine N_iadd (a := x29.toInt) (b := 2) rfl rfl (by decide) (by omega) (fun x31 q32 => ?_)
    refine R_iald rfl sh_97 ⟨by omega, by omega⟩ ?_
    refine N_any (fun x33 => ?_)
    refine R_iconst 1 rfl rfl ?_
    refine N_icmp_ne (a := x33.toInt) (b := 1) 68 rfl rfl rfl (by decide) (fun c34 => ?_) (fun c34 => ?_)
    · refine R_iconst 0 rfl rfl ?_
      refine N_icmp_ne (a := 0) (b := 0) 76 rfl rfl (by decide) (by decide) (fun c35 => ?_) (fun c35 => ?_)
      · exfalso; omega
      · refine R_iconst 1 rfl rfl ?_
        refine R_goto 77 rfl rfl ?_
        exact R_iret rfl rfl rfl ⟨rfl, _, rfl, by rw [show (1 : Int32).toInt = 1 from rfl]; omega⟩
    · refine R_iconst 1 rfl rfl ?_
      refine R_goto 69 rfl rfl ?_
      refine N_icmp_ne (a := 0) (b := 1) 76 rfl rfl (by decide) (by decide) (fun c36 => ?_) (fun c36 => ?_)
      · refine R_iconst 0 rfl rfl ?_
        exact R_iret rfl rfl rfl ⟨rfl, _, rfl, by rw [show (0 : Int32).toInt = 0 from rfl]; omega⟩
      · exfalso; omega
  · refine R_iconst 1 rfl rfl ?_
    refine R_goto 47 rfl rfl ?_
    refine R_aload_n (k := 0) rfl rfl rfl ?_
    refine R_getf_r (j := 1) rfl ft_9_9 sh_96 rfl ?_
    refine R_bipush 23 rfl rfl ?_
    refine R_iconst 3 rfl rfl ?_
    refine R_iload_n (k := 1) rfl rfl rfl ?_
    refine N_imul (a := 3) (b := a0.toInt) rfl (by decide) rfl (by omega) (fun x37 q38 => ?_)
    refine N_iadd (a := 23) (b := x37.toInt) rfl (by decide) rfl (by omega) (fun x39 q40 => ?_)
    refine R_iconst 2 rfl rfl ?_
    refine N_iadd (a := x39.toInt) (b := 2) rfl rfl (by decide) (by omega) (fun x41 q42 => ?_)
    refine R_iald rfl sh_97 ⟨by omega, by omega⟩ ?_
    refine N_any (fun x43 => ?_)
    refine R_iconst 1 rfl rfl ?_
    refine N_icmp_ne (a := x43.toInt) (b := 1) 68 rfl rfl rfl (by decide) (fun c44 => ?_) (fun c44 => ?_)
    · refine R_iconst 0 rfl rfl ?_
      refine N_icmp_ne (a := 1) (b := 0) 76 rfl rfl (by decide) (by decide) (fun c45 => ?_) (fun c45 => ?_)
      · refine R_iconst 0 rfl rfl ?_
        exact R_iret rfl rfl rfl ⟨rfl, _, rfl, by rw [show (0 : Int32).toInt = 0 from rfl]; omega⟩
      · exfalso; omega
    · refine R_iconst 1 rfl rfl ?_
      refine R_goto 69 rfl rfl ?_
      refine N_icmp_ne (a := 1) (b := 1) 76 rfl rfl (by decide) (by decide) (fun c46 => ?_) (fun c46 => ?_)
      · exfalso; omega
      · refine R_iconst 1 rfl rfl ?_
        refine R_goto 77 rfl rfl ?_
        exact R_iret rfl rfl rfl ⟨rfl, _, rfl, by rw [show (1 : Int32).toInt = 1 from rfl]; omega⟩
abbrev q_X9_keeps (h : PH) (a0 : Int32) : Option PV → PH → Prop := fun r h' => INV h' ∧ FR [96, 103, 104, 105, 106] h h' ∧ (True) ∧ ∃ z : Int32, r = some (.inl z) ∧ (((-2) ≤ z.toInt ∧ z.toInt ≤ 1))
set_option maxHeartbeats 4000000 in
set_option maxRecDepth 100000 in
theorem k_X9_keeps (h : PH) (hI : INV h) (a0 : Int32) : CALL d_X9_keeps [.inr (.inr (.inl 96)), .inl a0] h (q_X9_keeps h a0) := by
  show RUN d_X9_keeps 0 [(0, .inr (.inr (.inl 96))), (1, .inl a0)] [] h _
  have b1 := i_rng a0
  have fr : FR [96, 103, 104, 105, 106] h h := FR.rf _ _
  refine R_aload_n (k := 0) rfl rfl rfl ?_
  refine R_callV (v := .inr (.inr (.inl 96))) (As := []) (rest := []) rfl mt_9_i298 pp_X9_asItIs (by decide) rfl rfl rfl (Nat.le_of_ble_eq_true rfl) (Nat.le_of_ble_eq_true rfl) ((k_X9_asItIs h hI).mono (fun r2 h3 p4 => ?_))
  obtain ⟨hJ, fj, -, rfl⟩ := p4
  have f5 := fj
  have fr := fr.trans fj (by decide)
  have hI := hJ
  show RUN d_X9_keeps 4 [(0, .inr (.inr (.inl 96))), (1, .inl a0)] [] h3 _
  refine R_iload_n (k := 1) rfl rfl rfl ?_
  refine N_i2l rfl (fun w6 q7 => ?_)
  refine R_lconst 0 rfl rfl ?_
  refine R_aload_n (k := 0) rfl rfl rfl ?_
  refine R_getf_r (j := 1) rfl ft_9_9 sh_96 rfl ?_
  refine R_bipush 6 rfl rfl ?_
  refine R_iald rfl sh_97 (by decide) ?_
  have b8 : (0 : Int) ≤ (h3.1 97 6).toInt ∧ (h3.1 97 6).toInt ≤ 5 := hI.1 97 6
  show RUN d_X9_keeps 14 [(0, .inr (.inr (.inl 96))), (1, .inl a0)] [.inl (h3.1 97 6), .inr (.inl 0), .inr (.inl w6)] h3 _
  refine R_iconst 1 rfl rfl ?_
  refine N_isub (a := (h3.1 97 6).toInt) (b := 1) rfl rfl (by decide) (by omega) (fun x9 q10 => ?_)
  refine N_i2l rfl (fun w11 q12 => ?_)
  have k13 : (0 : Int64).toInt = 0 := by decide
  refine R_callS (As := [.inr (.inl w6), .inr (.inl 0), .inr (.inl w11)]) (rest := []) rfl mt_9_i125 (by decide) pp_X9_in (by decide) rfl rfl (Nat.le_of_ble_eq_true rfl) (Nat.le_of_ble_eq_true rfl) ((k_X9_in h3 hI w6 (0 : Int64) w11).mono (fun r14 h15 p16 => ?_))
  obtain ⟨rfl, x17, rfl, q18 | q18 | q18⟩ := p16
  · show RUN d_X9_keeps 20 [(0, .inr (.inr (.inl 96))), (1, .inl a0)] [.inl x17] h3 _
    refine N_if_eq (a := x17.toInt) 39 rfl rfl rfl (fun c19 => ?_) (fun c19 => ?_)
    · refine R_bipush (-2) rfl rfl ?_
      exact R_iret rfl rfl rfl ⟨hI, fr, trivial, _, rfl, by rw [show ((-2) : Int32).toInt = (-2) from rfl]; omega⟩
    · exfalso; omega
  · show RUN d_X9_keeps 20 [(0, .inr (.inr (.inl 96))), (1, .inl a0)] [.inl x17] h3 _
    refine N_if_eq (a := x17.toInt) 39 rfl rfl rfl (fun c20 => ?_) (fun c20 => ?_)
    · refine R_bipush (-2) rfl rfl ?_
      exact R_iret rfl rfl rfl ⟨hI, fr, trivial, _, rfl, by rw [show ((-2) : Int32).toInt = (-2) from rfl]; omega⟩
    · exfalso; omega
  · show RUN d_X9_keeps 20 [(0, .inr (.inr (.inl 96))), (1, .inl a0)] [.inl x17] h3 _
    refine N_if_eq (a := x17.toInt) 39 rfl rfl rfl (fun c21 => ?_) (fun c21 => ?_)
    · exfalso; omega
    · refine R_aload_n (k := 0) rfl rfl rfl ?_
      refine R_iload_n (k := 1) rfl rfl rfl ?_
      refine R_callV (v := .inr (.inr (.inl 96))) (As := [.inl a0]) (rest := []) rfl mt_9_i402 pp_X9_keepsPair (by decide) rfl rfl rfl (Nat.le_of_ble_eq_true rfl) (Nat.le_of_ble_eq_true rfl) ((k_X9_keepsPair h3 hI a0 (by omega)).mono (fun r22 h23 p24 => ?_))
      obtain ⟨rfl, x25, rfl, q26 | q26⟩ := p24
      · show RUN d_X9_keeps 28 [(0, .inr (.inr (.inl 96))), (1, .inl a0)] [.inl x25] h3 _
        refine N_if_eq (a := x25.toInt) 35 rfl rfl rfl (fun c27 => ?_) (fun c27 => ?_)
        · exfalso; omega
        · refine R_iconst 1 rfl rfl ?_
          refine R_goto 41 rfl rfl ?_
          exact R_iret rfl rfl rfl ⟨hI, fr, trivial, _, rfl, by rw [show (1 : Int32).toInt = 1 from rfl]; omega⟩
      · show RUN d_X9_keeps 28 [(0, .inr (.inr (.inl 96))), (1, .inl a0)] [.inl x25] h3 _
        refine N_if_eq (a := x25.toInt) 35 rfl rfl rfl (fun c28 => ?_) (fun c28 => ?_)
        · refine R_iconst 0 rfl rfl ?_
          refine R_goto 41 rfl rfl ?_
          exact R_iret rfl rfl rfl ⟨hI, fr, trivial, _, rfl, by rw [show (0 : Int32).toInt = 0 from rfl]; omega⟩
        · exfalso; omega
abbrev q_X1_hasSecond (h : PH) (a0 : Int32) : Option PV → PH → Prop := fun r h' => h = h' ∧ ∃ z : Int32, r = some (.inl z) ∧ ((z.toInt = 0 ∧ a0.toInt ≤ (-1)) ∨ (z.toInt = 0 ∧ 0 ≤ a0.toInt ∧ (h.1 17 0).toInt ≤ a0.toInt + 0) ∨ (z.toInt = 1 ∧ 0 ≤ a0.toInt ∧ a0.toInt ≤ 59 ∧ 1 ≤ (h.1 17 0).toInt ∧ (h.1 17 0).toInt ≤ 60 ∧ a0.toInt ≤ (h.1 17 0).toInt + (-1)))
set_option maxHeartbeats 4000000 in
set_option maxRecDepth 100000 in
theorem k_X1_hasSecond (h : PH) (hI : INV h) (a0 : Int32) : CALL d_X1_hasSecond [.inr (.inr (.inl 16)), .inl a0] h (q_X1_hasSecond h a0) := by
  show RUN d_X1_hasSecond 0 [(0, .inr (.inr (.inl 16))), (1, .inl a0)] [] h _
  have b1 := i_rng a0
  refine R_iload_n (k := 1) rfl rfl rfl ?_
  refine N_if_lt (a := a0.toInt) 18 rfl rfl rfl (fun c2 => ?_) (fun c2 => ?_)
  · refine R_iconst 0 rfl rfl ?_
    exact R_iret rfl rfl rfl ⟨rfl, _, rfl, by rw [show (0 : Int32).toInt = 0 from rfl]; omega⟩
  · refine R_iload_n (k := 1) rfl rfl rfl ?_
    refine R_aload_n (k := 0) rfl rfl rfl ?_
    refine R_getf_r (j := 0) rfl ft_1_9 sh_16 rfl ?_
    refine R_iconst 0 rfl rfl ?_
    refine R_iald rfl sh_17 (by decide) ?_
    have b3 : (0 : Int) ≤ (h.1 17 0).toInt ∧ (h.1 17 0).toInt ≤ 60 := hI.1 17 0
    show RUN d_X1_hasSecond 11 [(0, .inr (.inr (.inl 16))), (1, .inl a0)] [.inl (h.1 17 0), .inl a0] h _
    refine N_icmp_ge (a := a0.toInt) (b := (h.1 17 0).toInt) 18 rfl rfl rfl rfl (fun c4 => ?_) (fun c4 => ?_)
    · refine R_iconst 0 rfl rfl ?_
      exact R_iret rfl rfl rfl ⟨rfl, _, rfl, by rw [show (0 : Int32).toInt = 0 from rfl]; omega⟩
    · refine R_iconst 1 rfl rfl ?_
      refine R_goto 19 rfl rfl ?_
      exact R_iret rfl rfl rfl ⟨rfl, _, rfl, by rw [show (1 : Int32).toInt = 1 from rfl]; omega⟩
abbrev q_X2_clearFor (h : PH)  : Option PV → PH → Prop := fun r h' => INV h' ∧ FR [70] h h' ∧ (True) ∧ r = none
set_option maxHeartbeats 4000000 in
set_option maxRecDepth 100000 in
theorem k_X2_clearFor (h : PH) (hI : INV h)  : CALL d_X2_clearFor [.inr (.inr (.inl 70)), .inr (.inr (.inl 16))] h (q_X2_clearFor h) := by
  show RUN d_X2_clearFor 0 [(0, .inr (.inr (.inl 70))), (1, .inr (.inr (.inl 16)))] [] h _
  have fr : FR [70] h h := FR.rf _ _
  refine R_aload_n (k := 0) rfl rfl rfl ?_
  refine R_iconst 0 rfl rfl ?_
  refine K_putf (j := 4) (lo := 0) (hi' := 6) rfl ft_2_25 sh_70 rfl hI (by decide) rfl (by decide) fr (by decide) (fun h1 g2 hI fr => ?_)
  have s3 : (h1.1 70 4).toInt = 0 := by rw [g2, wI_is]; rfl
  refine R_aload_n (k := 0) rfl rfl rfl ?_
  refine R_aload_n (k := 1) rfl rfl rfl ?_
  refine R_getf_r (j := 0) rfl ft_2_44 sh_16 rfl ?_
  refine R_iconst 1 rfl rfl ?_
  refine R_iald rfl sh_17 (by decide) ?_
  show RUN d_X2_clearFor 12 [(0, .inr (.inr (.inl 70))), (1, .inr (.inr (.inl 16)))] [.inl (h1.1 17 1), .inr (.inr (.inl 70))] h1 _
  refine K_putf (j := 5) (lo := (-2147483648)) (hi' := 2147483647) rfl ft_2_29 sh_70 rfl hI (by decide) rfl (i_rng _) fr (by decide) (fun h4 g5 hI fr => ?_)
  have s6 : (h4.1 70 4).toInt = (h1.1 70 4).toInt := by rw [g5, wI_at (by decide)]
  have s7 : (h4.1 17 1).toInt = (h1.1 17 1).toInt := by rw [g5, wI_ne _ _ _ (by decide)]
  have s8 : (h4.1 70 5).toInt = (h1.1 17 1).toInt := by rw [g5, wI_is]
  refine R_aload_n (k := 0) rfl rfl rfl ?_
  refine R_aload_n (k := 1) rfl rfl rfl ?_
  refine R_getf_r (j := 0) rfl ft_2_44 sh_16 rfl ?_
  refine R_iconst 2 rfl rfl ?_
  refine R_iald rfl sh_17 (by decide) ?_
  show RUN d_X2_clearFor 22 [(0, .inr (.inr (.inl 70))), (1, .inr (.inr (.inl 16)))] [.inl (h4.1 17 2), .inr (.inr (.inl 70))] h4 _
  refine K_putf (j := 6) (lo := (-2147483648)) (hi' := 2147483647) rfl ft_2_32 sh_70 rfl hI (by decide) rfl (i_rng _) fr (by decide) (fun h9 g10 hI fr => ?_)
  have s11 : (h9.1 70 4).toInt = (h4.1 70 4).toInt := by rw [g10, wI_at (by decide)]
  have s12 : (h9.1 17 1).toInt = (h4.1 17 1).toInt := by rw [g10, wI_ne _ _ _ (by decide)]
  have s13 : (h9.1 70 5).toInt = (h4.1 70 5).toInt := by rw [g10, wI_at (by decide)]
  have s14 : (h9.1 17 2).toInt = (h4.1 17 2).toInt := by rw [g10, wI_ne _ _ _ (by decide)]
  have s15 : (h9.1 70 6).toInt = (h4.1 17 2).toInt := by rw [g10, wI_is]
  refine R_aload_n (k := 0) rfl rfl rfl ?_
  refine R_aload_n (k := 1) rfl rfl rfl ?_
  refine R_getf_r (j := 0) rfl ft_2_44 sh_16 rfl ?_
  refine R_iconst 3 rfl rfl ?_
  refine R_iald rfl sh_17 (by decide) ?_
  show RUN d_X2_clearFor 32 [(0, .inr (.inr (.inl 70))), (1, .inr (.inr (.inl 16)))] [.inl (h9.1 17 3), .inr (.inr (.inl 70))] h9 _
  refine K_putf (j := 7) (lo := (-2147483648)) (hi' := 2147483647) rfl ft_2_35 sh_70 rfl hI (by decide) rfl (i_rng _) fr (by decide) (fun h16 g17 hI fr => ?_)
  have s18 : (h16.1 70 4).toInt = (h9.1 70 4).toInt := by rw [g17, wI_at (by decide)]
  have s19 : (h16.1 17 1).toInt = (h9.1 17 1).toInt := by rw [g17, wI_ne _ _ _ (by decide)]
  have s20 : (h16.1 70 5).toInt = (h9.1 70 5).toInt := by rw [g17, wI_at (by decide)]
  have s21 : (h16.1 17 2).toInt = (h9.1 17 2).toInt := by rw [g17, wI_ne _ _ _ (by decide)]
  have s22 : (h16.1 70 6).toInt = (h9.1 70 6).toInt := by rw [g17, wI_at (by decide)]
  have s23 : (h16.1 17 3).toInt = (h9.1 17 3).toInt := by rw [g17, wI_ne _ _ _ (by decide)]
  have s24 : (h16.1 70 7).toInt = (h9.1 17 3).toInt := by rw [g17, wI_is]
  exact R_vret rfl rfl ⟨hI, fr, trivial, rfl⟩
abbrev q_X2_join (h : PH) (a1 : Int32) : Option PV → PH → Prop := fun r h' => INV h' ∧ FR [70, 71, 72, 73] h h' ∧ (True) ∧ r = none
set_option maxHeartbeats 4000000 in
set_option maxRecDepth 100000 in
theorem k_X2_join (h : PH) (hI : INV h) (a1 : Int32) (h1a : 0 ≤ a1.toInt ∧ a1.toInt ≤ 7) : CALL d_X2_join [.inr (.inr (.inl 70)), .inr (.inr (.inl 16)), .inl a1] h (q_X2_join h a1) := by
  show RUN d_X2_join 0 [(0, .inr (.inr (.inl 70))), (1, .inr (.inr (.inl 16))), (2, .inl a1)] [] h _
  have fr : FR [70, 71, 72, 73] h h := FR.rf _ _
  refine R_aload_n (k := 0) rfl rfl rfl ?_
  refine R_getf_i (j := 4) rfl ft_2_25 sh_70 rfl ?_
  have b1 : (0 : Int) ≤ (h.1 70 4).toInt ∧ (h.1 70 4).toInt ≤ 6 := hI.1 70 4
  refine R_bipush 6 rfl rfl ?_
  refine N_icmp_ge (a := (h.1 70 4).toInt) (b := 6) 72 rfl rfl rfl (by decide) (fun c2 => ?_) (fun c2 => ?_)
  · exact R_vret rfl rfl ⟨hI, fr, trivial, rfl⟩
  · refine R_aload_n (k := 1) rfl rfl rfl ?_
    refine R_iload_n (k := 2) rfl rfl rfl ?_
    have b3 : (0 : Int) ≤ (h.1 17 5).toInt ∧ (h.1 17 5).toInt ≤ 6 := hI.1 17 5
    refine R_callV (v := .inr (.inr (.inl 16))) (As := [.inl a1]) (rest := []) rfl mt_2_i49 pp_X1_hasHand (by decide) rfl rfl rfl (Nat.le_of_ble_eq_true rfl) (Nat.le_of_ble_eq_true rfl) ((k_X1_hasHand h hI a1).mono (fun r4 h5 p6 => ?_))
    obtain ⟨rfl, x7, rfl, q8 | q8 | q8⟩ := p6
    · exfalso; omega
    · show RUN d_X2_join 14 [(0, .inr (.inr (.inl 70))), (1, .inr (.inr (.inl 16))), (2, .inl a1)] [.inl x7] h _
      refine N_if_eq (a := x7.toInt) 72 rfl rfl rfl (fun c9 => ?_) (fun c9 => ?_)
      · exact R_vret rfl rfl ⟨hI, fr, trivial, rfl⟩
      · exfalso; omega
    · show RUN d_X2_join 14 [(0, .inr (.inr (.inl 70))), (1, .inr (.inr (.inl 16))), (2, .inl a1)] [.inl x7] h _
      refine N_if_eq (a := x7.toInt) 72 rfl rfl rfl (fun c10 => ?_) (fun c10 => ?_)
      · exfalso; omega
      · refine R_aload_n (k := 0) rfl rfl rfl ?_
        refine R_getf_r (j := 0) rfl ft_2_9 sh_70 rfl ?_
        refine R_aload_n (k := 0) rfl rfl rfl ?_
        refine R_getf_i (j := 4) rfl ft_2_25 sh_70 rfl ?_
        refine R_aload_n (k := 1) rfl rfl rfl ?_
        refine R_getf_r (j := 2) rfl ft_2_53 sh_16 rfl ?_
        refine R_iload_n (k := 2) rfl rfl rfl ?_
        refine R_iald rfl sh_19 ⟨by omega, by omega⟩ ?_
        refine N_any (fun x11 => ?_)
        refine K_iast (a := (h.1 70 4).toInt) (lo := (-2147483648)) (hi' := 2147483647) rfl sh_71 rfl ⟨by omega, by omega⟩ hI (by decide) rfl (i_rng _) fr (by decide) (fun h12 g13 hI fr => ?_)
        have s14 : (h12.1 70 4).toInt = (h.1 70 4).toInt := by rw [g13, wI_ne _ _ _ (by decide)]
        have s15 : (h12.1 17 5).toInt = (h.1 17 5).toInt := by rw [g13, wI_ne _ _ _ (by decide)]
        refine R_aload_n (k := 0) rfl rfl rfl ?_
        refine R_getf_r (j := 1) rfl ft_2_15 sh_70 rfl ?_
        refine R_aload_n (k := 0) rfl rfl rfl ?_
        refine R_getf_i (j := 4) rfl ft_2_25 sh_70 rfl ?_
        refine R_aload_n (k := 1) rfl rfl rfl ?_
        refine R_getf_r (j := 3) rfl ft_2_54 sh_16 rfl ?_
        refine R_iload_n (k := 2) rfl rfl rfl ?_
        refine R_iald rfl sh_20 ⟨by omega, by omega⟩ ?_
        refine N_any (fun x16 => ?_)
        refine K_iast (a := (h12.1 70 4).toInt) (lo := (-2147483648)) (hi' := 2147483647) rfl sh_72 rfl ⟨by omega, by omega⟩ hI (by decide) rfl (i_rng _) fr (by decide) (fun h17 g18 hI fr => ?_)
        have s19 : (h17.1 70 4).toInt = (h12.1 70 4).toInt := by rw [g18, wI_ne _ _ _ (by decide)]
        have s20 : (h17.1 17 5).toInt = (h12.1 17 5).toInt := by rw [g18, wI_ne _ _ _ (by decide)]
        refine R_aload_n (k := 0) rfl rfl rfl ?_
        refine R_getf_r (j := 2) rfl ft_2_18 sh_70 rfl ?_
        refine R_aload_n (k := 0) rfl rfl rfl ?_
        refine R_getf_i (j := 4) rfl ft_2_25 sh_70 rfl ?_
        refine R_aload_n (k := 1) rfl rfl rfl ?_
        refine R_getf_r (j := 4) rfl ft_2_55 sh_16 rfl ?_
        refine R_iload_n (k := 2) rfl rfl rfl ?_
        refine R_lald rfl sh_21 ⟨by omega, by omega⟩ ?_
        refine N_anyL (fun w21 => ?_)
        refine K_last (a := (h17.1 70 4).toInt) rfl sh_73 rfl ⟨by omega, by omega⟩ hI fr (by decide) (fun h22 g23 hI fr => ?_)
        have s24 : (h22.1 70 4).toInt = (h17.1 70 4).toInt := by rw [g23, wL_fst]
        have s25 : (h22.1 17 5).toInt = (h17.1 17 5).toInt := by rw [g23, wL_fst]
        refine R_aload_n (k := 0) rfl rfl rfl ?_
        refine R_dup_r rfl ?_
        refine R_getf_i (j := 4) rfl ft_2_25 sh_70 rfl ?_
        refine R_iconst 1 rfl rfl ?_
        refine N_iadd (a := (h22.1 70 4).toInt) (b := 1) rfl rfl (by decide) (by omega) (fun x26 q27 => ?_)
        refine K_putf (j := 4) (lo := 0) (hi' := 6) rfl ft_2_25 sh_70 rfl hI (by decide) rfl (by omega) fr (by decide) (fun h28 g29 hI fr => ?_)
        have s30 : (h28.1 17 5).toInt = (h22.1 17 5).toInt := by rw [g29, wI_ne _ _ _ (by decide)]
        have s31 : (h28.1 70 4).toInt = x26.toInt := by rw [g29, wI_is]
        exact R_vret rfl rfl ⟨hI, fr, trivial, rfl⟩
abbrev q_X8_lineAsNow (h : PH)  : Option PV → PH → Prop := fun r h' => INV h' ∧ FR [70, 71, 72, 73] h h' ∧ (True) ∧ r = none
set_option maxHeartbeats 4000000 in
set_option maxRecDepth 100000 in
theorem k_X8_lineAsNow (h : PH) (hI : INV h)  : CALL d_X8_lineAsNow [.inr (.inr (.inl 0))] h (q_X8_lineAsNow h) := by
  show RUN d_X8_lineAsNow 0 [(0, .inr (.inr (.inl 0)))] [] h _
  have fr : FR [70, 71, 72, 73] h h := FR.rf _ _
  refine R_aload_n (k := 0) rfl rfl rfl ?_
  refine R_getf_r (j := 7) rfl ft_8_49 sh_0 rfl ?_
  refine R_aload_n (k := 0) rfl rfl rfl ?_
  refine R_getf_r (j := 3) rfl ft_8_28 sh_0 rfl ?_
  refine R_callV (v := .inr (.inr (.inl 70))) (As := [.inr (.inr (.inl 16))]) (rest := []) rfl mt_8_i426 pp_X2_clearFor (by decide) rfl rfl rfl (Nat.le_of_ble_eq_true rfl) (Nat.le_of_ble_eq_true rfl) ((k_X2_clearFor h hI).mono (fun r1 h2 p3 => ?_))
  obtain ⟨hJ, fj, -, rfl⟩ := p3
  have f4 := fj
  have fr := fr.trans fj (by decide)
  have hI := hJ
  show RUN d_X8_lineAsNow 11 [(0, .inr (.inr (.inl 0)))] [] h2 _
  refine R_iconst 0 rfl rfl ?_
  refine R_istore_n (k := 1) rfl [(1, .inl 0), (0, .inr (.inr (.inl 0)))] rfl rfl (by decide) ?_
  have lp6 : ∀ (n5 : Nat) (h7 : PH) (x9 : Int32), INV h7 → FR [70, 71, 72, 73] h h7 → FR [70, 71, 72, 73] h2 h7 → 0 ≤ x9.toInt ∧ x9.toInt ≤ 6 → (6 - x9.toInt).toNat < n5 → RUN d_X8_lineAsNow 13 [(1, .inl x9), (0, .inr (.inr (.inl 0)))] [] h7 (q_X8_lineAsNow h) := by
    intro n5
    induction n5 with
    | zero => intro h7 x9 m11 m12 m13 m14 hz; exact absurd hz (Nat.not_lt_zero _)
    | succ n5 ih10 =>
      intro h7 x9 hI fr fl8 m14 hz
      refine R_iload_n (k := 1) rfl rfl rfl ?_
      refine R_aload_n (k := 0) rfl rfl rfl ?_
      refine R_getf_r (j := 3) rfl ft_8_28 sh_0 rfl ?_
      refine R_getf_r (j := 0) rfl ft_8_109 sh_16 rfl ?_
      refine R_iconst 5 rfl rfl ?_
      refine R_iald rfl sh_17 (by decide) ?_
      have b15 : (0 : Int) ≤ (h7.1 17 5).toInt ∧ (h7.1 17 5).toInt ≤ 6 := hI.1 17 5
      show RUN d_X8_lineAsNow 23 [(1, .inl x9), (0, .inr (.inr (.inl 0)))] [.inl (h7.1 17 5), .inl x9] h7 _
      refine N_icmp_ge (a := x9.toInt) (b := (h7.1 17 5).toInt) 44 rfl rfl rfl rfl (fun c16 => ?_) (fun c16 => ?_)
      · exact R_vret rfl rfl ⟨hI, fr, trivial, rfl⟩
      · refine R_aload_n (k := 0) rfl rfl rfl ?_
        refine R_getf_r (j := 7) rfl ft_8_49 sh_0 rfl ?_
        refine R_aload_n (k := 0) rfl rfl rfl ?_
        refine R_getf_r (j := 3) rfl ft_8_28 sh_0 rfl ?_
        refine R_iload_n (k := 1) rfl rfl rfl ?_
        refine R_callV (v := .inr (.inr (.inl 70))) (As := [.inr (.inr (.inl 16)), .inl x9]) (rest := []) rfl mt_8_i429 pp_X2_join (by decide) rfl rfl rfl (Nat.le_of_ble_eq_true rfl) (Nat.le_of_ble_eq_true rfl) ((k_X2_join h7 hI x9 (by omega)).mono (fun r17 h18 p19 => ?_))
        obtain ⟨hJ, fj, -, rfl⟩ := p19
        have f20 := fj
        have fr := fr.trans fj (by decide)
        have hI := hJ
        have fl8 : FR [70, 71, 72, 73] h2 h18 := fl8.trans fj (by decide)
        have s21 : (h18.1 17 5).toInt = (h7.1 17 5).toInt := by rw [(f20 17 (by decide)).1]
        show RUN d_X8_lineAsNow 38 [(1, .inl x9), (0, .inr (.inr (.inl 0)))] [] h18 _
        refine N_iinc (a := x9.toInt) (c := 1) (fun w => [(1, .inl w), (0, .inr (.inr (.inl 0)))]) rfl rfl (fun _ => rfl) (by decide) rfl (by decide) (by omega) (fun x22 q23 => ?_)
        refine R_goto 13 rfl rfl ?_
        exact RUN_weak (psub_cons rfl (psub_cons rfl (psub_nil _))) (ih10 h18 x22 hI fr fl8 (by omega) (by omega))
  exact lp6 _ h2 (0 : Int32) hI fr (FR.rf _ _) (by decide) (Nat.lt_succ_self _)
abbrev q_X2_loadAt (h : PH) (a0 : Int32) : Option PV → PH → Prop := fun r h' => h = h' ∧ ∃ z : Int32, r = some (.inl z) ∧ ((True))
set_option maxHeartbeats 4000000 in
set_option maxRecDepth 100000 in
theorem k_X2_loadAt (h : PH) (hI : INV h) (a0 : Int32) (h0a : 0 ≤ a0.toInt ∧ a0.toInt ≤ 6) : CALL d_X2_loadAt [.inr (.inr (.inl 70)), .inl a0] h (q_X2_loadAt h a0) := by
  show RUN d_X2_loadAt 0 [(0, .inr (.inr (.inl 70))), (1, .inl a0)] [] h _
  refine R_aload_n (k := 0) rfl rfl rfl ?_
  refine R_getf_i (j := 6) rfl ft_2_32 sh_70 rfl ?_
  refine R_istore_n (k := 2) rfl [(2, .inl (h.1 70 6)), (0, .inr (.inr (.inl 70))), (1, .inl a0)] rfl rfl (by decide) ?_
  refine R_iconst 0 rfl rfl ?_
  refine R_istore_n (k := 3) rfl [(3, .inl 0), (2, .inl (h.1 70 6)), (0, .inr (.inr (.inl 70))), (1, .inl a0)] rfl rfl (by decide) ?_
  have lp2 : ∀ (n1 : Nat) (x3 : Int32) (x4 : Int32), 0 ≤ x4.toInt ∧ x4.toInt ≤ 6 → x4.toInt ≤ a0.toInt + 0 → (6 - x4.toInt).toNat < n1 → RUN d_X2_loadAt 7 [(3, .inl x4), (2, .inl x3), (0, .inr (.inr (.inl 70))), (1, .inl a0)] [] h (q_X2_loadAt h a0) := by
    intro n1
    induction n1 with
    | zero => intro x3 x4 m6 m7 hz; exact absurd hz (Nat.not_lt_zero _)
    | succ n1 ih5 =>
      intro x3 x4 m6 m7 hz
      refine R_iload_n (k := 3) rfl rfl rfl ?_
      refine R_iload_n (k := 1) rfl rfl rfl ?_
      refine N_icmp_ge (a := x4.toInt) (b := a0.toInt) 39 rfl rfl rfl rfl (fun c8 => ?_) (fun c8 => ?_)
      · refine R_iload_n (k := 2) rfl rfl rfl ?_
        exact R_iret rfl rfl rfl ⟨rfl, _, rfl, trivial⟩
      · refine R_iload_n (k := 3) rfl rfl rfl ?_
        refine R_aload_n (k := 0) rfl rfl rfl ?_
        refine R_getf_i (j := 4) rfl ft_2_25 sh_70 rfl ?_
        have b9 : (0 : Int) ≤ (h.1 70 4).toInt ∧ (h.1 70 4).toInt ≤ 6 := hI.1 70 4
        refine N_icmp_ge (a := x4.toInt) (b := (h.1 70 4).toInt) 39 rfl rfl rfl rfl (fun c10 => ?_) (fun c10 => ?_)
        · refine R_iload_n (k := 2) rfl rfl rfl ?_
          exact R_iret rfl rfl rfl ⟨rfl, _, rfl, trivial⟩
        · refine R_iconst 0 rfl rfl ?_
          refine R_iload_n (k := 2) rfl rfl rfl ?_
          refine R_aload_n (k := 0) rfl rfl rfl ?_
          refine R_getf_r (j := 1) rfl ft_2_15 sh_70 rfl ?_
          refine R_iload_n (k := 3) rfl rfl rfl ?_
          refine R_iald rfl sh_72 ⟨by omega, by omega⟩ ?_
          refine N_any (fun x11 => ?_)
          have b12 := i_rng x3
          have b13 := i_rng x11
          refine R_isub rfl ?_
          refine N_any (fun x14 => ?_)
          refine N_max (a := 0) (b := x14.toInt) rfl mt_2_i56 (by decide) rfl ⟨by decide, by decide, Nat.le_of_ble_eq_true rfl⟩ (fun x15 q16 => ?_)
          refine R_istore_n (k := 2) rfl [(2, .inl x15), (3, .inl x4), (0, .inr (.inr (.inl 70))), (1, .inl a0)] rfl rfl (by decide) ?_
          refine N_iinc (a := x4.toInt) (c := 1) (fun w => [(3, .inl w), (2, .inl x15), (0, .inr (.inr (.inl 70))), (1, .inl a0)]) rfl rfl (fun _ => rfl) (by decide) rfl (by decide) (by omega) (fun x17 q18 => ?_)
          refine R_goto 7 rfl rfl ?_
          exact RUN_weak (psub_cons rfl (psub_cons rfl (psub_cons rfl (psub_cons rfl (psub_nil _))))) (ih5 x15 x17 (by omega) (by omega) (by omega))
  have k19 : (0 : Int32).toInt = 0 := by decide
  exact lp2 _ (h.1 70 6) (0 : Int32) (by decide) (by omega) (Nat.lt_succ_self _)
abbrev q_X2_poured (h : PH)  : Option PV → PH → Prop := fun r h' => h = h' ∧ ∃ z : Int32, r = some (.inl z) ∧ ((True))
set_option maxHeartbeats 4000000 in
set_option maxRecDepth 100000 in
theorem k_X2_poured (h : PH) (hI : INV h)  : CALL d_X2_poured [.inr (.inr (.inl 70))] h (q_X2_poured h) := by
  show RUN d_X2_poured 0 [(0, .inr (.inr (.inl 70)))] [] h _
  refine R_aload_n (k := 0) rfl rfl rfl ?_
  refine R_aload_n (k := 0) rfl rfl rfl ?_
  refine R_getf_i (j := 4) rfl ft_2_25 sh_70 rfl ?_
  have b1 : (0 : Int) ≤ (h.1 70 4).toInt ∧ (h.1 70 4).toInt ≤ 6 := hI.1 70 4
  refine R_callV (v := .inr (.inr (.inl 70))) (As := [.inl (h.1 70 4)]) (rest := []) rfl mt_2_i62 pp_X2_loadAt (by decide) rfl rfl rfl (Nat.le_of_ble_eq_true rfl) (Nat.le_of_ble_eq_true rfl) ((k_X2_loadAt h hI (h.1 70 4) (by omega)).mono (fun r2 h3 p4 => ?_))
  obtain ⟨rfl, x5, rfl, q6⟩ := p4
  show RUN d_X2_poured 8 [(0, .inr (.inr (.inl 70)))] [.inl x5] h _
  exact R_iret rfl rfl rfl ⟨rfl, _, rfl, trivial⟩
abbrev q_X2_begin (h : PH)  : Option PV → PH → Prop := fun r h' => INV h' ∧ FR [70, 74] h h' ∧ (True) ∧ r = none
set_option maxHeartbeats 4000000 in
set_option maxRecDepth 100000 in
theorem k_X2_begin (h : PH) (hI : INV h)  : CALL d_X2_begin [.inr (.inr (.inl 70))] h (q_X2_begin h) := by
  show RUN d_X2_begin 0 [(0, .inr (.inr (.inl 70)))] [] h _
  have fr : FR [70, 74] h h := FR.rf _ _
  refine R_iconst 0 rfl rfl ?_
  refine R_istore_n (k := 1) rfl [(1, .inl 0), (0, .inr (.inr (.inl 70)))] rfl rfl (by decide) ?_
  have lp2 : ∀ (n1 : Nat) (h3 : PH) (x5 : Int32), INV h3 → FR [70, 74] h h3 → FR [70, 74] h h3 → 0 ≤ x5.toInt ∧ x5.toInt ≤ 6 → (h3.1 70 5).toInt = (h.1 70 5).toInt → (6 - x5.toInt).toNat < n1 → RUN d_X2_begin 2 [(1, .inl x5), (0, .inr (.inr (.inl 70)))] [] h3 (q_X2_begin h) := by
    intro n1
    induction n1 with
    | zero => intro h3 x5 m7 m8 m9 m10 m11 hz; exact absurd hz (Nat.not_lt_zero _)
    | succ n1 ih6 =>
      intro h3 x5 hI fr fl4 m10 m11 hz
      refine R_iload_n (k := 1) rfl rfl rfl ?_
      refine R_bipush 6 rfl rfl ?_
      refine N_icmp_ge (a := x5.toInt) (b := 6) 21 rfl rfl rfl (by decide) (fun c12 => ?_) (fun c12 => ?_)
      · refine R_aload_n (k := 0) rfl rfl rfl ?_
        refine R_aload_n (k := 0) rfl rfl rfl ?_
        refine R_getf_i (j := 5) rfl ft_2_29 sh_70 rfl ?_
        refine K_putf (j := 8) (lo := (-2147483648)) (hi' := 2147483647) rfl ft_2_38 sh_70 rfl hI (by decide) rfl (i_rng _) fr (by decide) (fun h13 g14 hI fr => ?_)
        have fl4 : FR [70, 74] h h13 := by rw [g14]; exact FR_wI _ _ fl4 (by decide)
        have s15 : (h13.1 70 5).toInt = (h3.1 70 5).toInt := by rw [g14, wI_at (by decide)]
        have s16 : (h13.1 70 8).toInt = (h3.1 70 5).toInt := by rw [g14, wI_is]
        refine R_aload_n (k := 0) rfl rfl rfl ?_
        refine R_iconst 0 rfl rfl ?_
        refine K_putf (j := 9) (lo := (-2147483648)) (hi' := 2147483647) rfl ft_2_41 sh_70 rfl hI (by decide) rfl (by decide) fr (by decide) (fun h17 g18 hI fr => ?_)
        have fl4 : FR [70, 74] h h17 := by rw [g18]; exact FR_wI _ _ fl4 (by decide)
        have s19 : (h17.1 70 5).toInt = (h13.1 70 5).toInt := by rw [g18, wI_at (by decide)]
        have s20 : (h17.1 70 8).toInt = (h13.1 70 8).toInt := by rw [g18, wI_at (by decide)]
        have s21 : (h17.1 70 9).toInt = 0 := by rw [g18, wI_is]; rfl
        exact R_vret rfl rfl ⟨hI, fr, trivial, rfl⟩
      · refine R_aload_n (k := 0) rfl rfl rfl ?_
        refine R_getf_r (j := 3) rfl ft_2_22 sh_70 rfl ?_
        refine R_iload_n (k := 1) rfl rfl rfl ?_
        refine R_iconst 0 rfl rfl ?_
        refine K_iast (a := x5.toInt) (lo := (-2147483648)) (hi' := 2147483647) rfl sh_74 rfl ⟨by omega, by omega⟩ hI (by decide) rfl (by decide) fr (by decide) (fun h22 g23 hI fr => ?_)
        have fl4 : FR [70, 74] h h22 := by rw [g23]; exact FR_wI _ _ fl4 (by decide)
        have s24 : (h22.1 70 5).toInt = (h3.1 70 5).toInt := by rw [g23, wI_ne _ _ _ (by decide)]
        refine N_iinc (a := x5.toInt) (c := 1) (fun w => [(1, .inl w), (0, .inr (.inr (.inl 70)))]) rfl rfl (fun _ => rfl) (by decide) rfl (by decide) (by omega) (fun x25 q26 => ?_)
        refine R_goto 2 rfl rfl ?_
        exact RUN_weak (psub_cons rfl (psub_cons rfl (psub_nil _))) (ih6 h22 x25 hI fr fl4 (by omega) (by omega) (by omega))
  exact lp2 _ h (0 : Int32) hI fr (FR.rf _ _) (by decide) rfl (Nat.lt_succ_self _)
abbrev q_X2_readyBits (h : PH)  : Option PV → PH → Prop := fun r h' => h = h' ∧ ∃ z : Int32, r = some (.inl z) ∧ ((True))
set_option maxHeartbeats 4000000 in
set_option maxRecDepth 100000 in
theorem k_X2_readyBits (h : PH) (hI : INV h)  : CALL d_X2_readyBits [.inr (.inr (.inl 70))] h (q_X2_readyBits h) := by
  show RUN d_X2_readyBits 0 [(0, .inr (.inr (.inl 70)))] [] h _
  refine R_iconst 0 rfl rfl ?_
  refine R_istore_n (k := 1) rfl [(1, .inl 0), (0, .inr (.inr (.inl 70)))] rfl rfl (by decide) ?_
  refine R_iconst 0 rfl rfl ?_
  refine R_istore_n (k := 2) rfl [(2, .inl 0), (1, .inl 0), (0, .inr (.inr (.inl 70)))] rfl rfl (by decide) ?_
  have lp2 : ∀ (n1 : Nat) (x3 : Int32) (x4 : Int32), 0 ≤ x4.toInt ∧ x4.toInt ≤ 6 → (6 - x4.toInt).toNat < n1 → RUN d_X2_readyBits 4 [(2, .inl x4), (1, .inl x3), (0, .inr (.inr (.inl 70)))] [] h (q_X2_readyBits h) := by
    intro n1
    induction n1 with
    | zero => intro x3 x4 m6 hz; exact absurd hz (Nat.not_lt_zero _)
    | succ n1 ih5 =>
      intro x3 x4 m6 hz
      refine R_iload_n (k := 2) rfl rfl rfl ?_
      refine R_aload_n (k := 0) rfl rfl rfl ?_
      refine R_getf_i (j := 4) rfl ft_2_25 sh_70 rfl ?_
      have b7 : (0 : Int) ≤ (h.1 70 4).toInt ∧ (h.1 70 4).toInt ≤ 6 := hI.1 70 4
      refine N_icmp_ge (a := x4.toInt) (b := (h.1 70 4).toInt) 48 rfl rfl rfl rfl (fun c8 => ?_) (fun c8 => ?_)
      · refine R_iload_n (k := 1) rfl rfl rfl ?_
        exact R_iret rfl rfl rfl ⟨rfl, _, rfl, trivial⟩
      · refine R_aload_n (k := 0) rfl rfl rfl ?_
        refine R_getf_r (j := 3) rfl ft_2_22 sh_70 rfl ?_
        refine R_iload_n (k := 2) rfl rfl rfl ?_
        refine R_iald rfl sh_74 ⟨by omega, by omega⟩ ?_
        refine N_any (fun x9 => ?_)
        refine N_if_le (a := x9.toInt) 42 rfl rfl rfl (fun c10 => ?_) (fun c10 => ?_)
        · refine N_iinc (a := x4.toInt) (c := 1) (fun w => [(2, .inl w), (1, .inl x3), (0, .inr (.inr (.inl 70)))]) rfl rfl (fun _ => rfl) (by decide) rfl (by decide) (by omega) (fun x11 q12 => ?_)
          refine R_goto 4 rfl rfl ?_
          exact RUN_weak (psub_cons rfl (psub_cons rfl (psub_cons rfl (psub_nil _)))) (ih5 x3 x11 (by omega) (by omega))
        · refine R_aload_n (k := 0) rfl rfl rfl ?_
          refine R_getf_r (j := 3) rfl ft_2_22 sh_70 rfl ?_
          refine R_iload_n (k := 2) rfl rfl rfl ?_
          refine R_iald rfl sh_74 ⟨by omega, by omega⟩ ?_
          refine N_any (fun x13 => ?_)
          refine R_aload_n (k := 0) rfl rfl rfl ?_
          refine R_getf_r (j := 0) rfl ft_2_9 sh_70 rfl ?_
          refine R_iload_n (k := 2) rfl rfl rfl ?_
          refine R_iald rfl sh_71 ⟨by omega, by omega⟩ ?_
          refine N_any (fun x14 => ?_)
          refine N_icmp_lt (a := x13.toInt) (b := x14.toInt) 42 rfl rfl rfl rfl (fun c15 => ?_) (fun c15 => ?_)
          · refine N_iinc (a := x4.toInt) (c := 1) (fun w => [(2, .inl w), (1, .inl x3), (0, .inr (.inr (.inl 70)))]) rfl rfl (fun _ => rfl) (by decide) rfl (by decide) (by omega) (fun x16 q17 => ?_)
            refine R_goto 4 rfl rfl ?_
            exact RUN_weak (psub_cons rfl (psub_cons rfl (psub_cons rfl (psub_nil _)))) (ih5 x3 x16 (by omega) (by omega))
          · refine R_iload_n (k := 1) rfl rfl rfl ?_
            refine R_iconst 1 rfl rfl ?_
            refine R_iload_n (k := 2) rfl rfl rfl ?_
            refine N_ishl1 (b := x4.toInt) rfl rfl (by omega) (fun x18 q19 => ?_)
            refine R_ior rfl ?_
            refine N_any (fun x20 => ?_)
            refine R_istore_n (k := 1) rfl [(1, .inl x20), (2, .inl x4), (0, .inr (.inr (.inl 70)))] rfl rfl (by decide) ?_
            refine N_iinc (a := x4.toInt) (c := 1) (fun w => [(2, .inl w), (1, .inl x20), (0, .inr (.inr (.inl 70)))]) rfl rfl (fun _ => rfl) (by decide) rfl (by decide) (by omega) (fun x21 q22 => ?_)
            refine R_goto 4 rfl rfl ?_
            exact RUN_weak (psub_cons rfl (psub_cons rfl (psub_cons rfl (psub_nil _)))) (ih5 x20 x21 (by omega) (by omega))
  exact lp2 _ (0 : Int32) (0 : Int32) (by decide) (Nat.lt_succ_self _)
abbrev q_X8_hasBit (h : PH) (a0 : Int64) (a1 : Int32) : Option PV → PH → Prop := fun r h' => h = h' ∧ ∃ z : Int32, r = some (.inl z) ∧ ((z.toInt = 0) ∨ (z.toInt = 1))
set_option maxHeartbeats 4000000 in
set_option maxRecDepth 100000 in
theorem k_X8_hasBit (h : PH) (hI : INV h) (a0 : Int64) (a1 : Int32) : CALL d_X8_hasBit [.inr (.inl a0), .inl a1] h (q_X8_hasBit h a0 a1) := by
  show RUN d_X8_hasBit 0 [(0, .inr (.inl a0)), (2, .inl a1)] [] h _
  have b1 := i_rng a1
  refine R_lload_n (k := 0) rfl rfl rfl ?_
  refine R_iload_n (k := 2) rfl rfl rfl ?_
  refine R_lushr rfl ?_
  refine N_anyL (fun w2 => ?_)
  refine R_lconst 1 rfl rfl ?_
  refine R_land rfl ?_
  refine N_anyL (fun w3 => ?_)
  refine R_lconst 0 rfl rfl ?_
  refine N_lcmp (a := w3.toInt) (b := 0) rfl rfl (by decide) (fun x4 q5 => ?_)
  refine N_if_eq (a := x4.toInt) 14 rfl rfl rfl (fun c6 => ?_) (fun c6 => ?_)
  · refine R_iconst 0 rfl rfl ?_
    exact R_iret rfl rfl rfl ⟨rfl, _, rfl, by rw [show (0 : Int32).toInt = 0 from rfl]; omega⟩
  · refine R_iconst 1 rfl rfl ?_
    refine R_goto 15 rfl rfl ?_
    exact R_iret rfl rfl rfl ⟨rfl, _, rfl, by rw [show (1 : Int32).toInt = 1 from rfl]; omega⟩
abbrev q_X2_nextIsFree (h : PH) (a0 : Int32) (a1 : Int32) : Option PV → PH → Prop := fun r h' => h = h' ∧ ∃ z : Int32, r = some (.inl z) ∧ ((z.toInt = 1 ∧ (h.1 70 4).toInt ≤ a0.toInt + 1) ∨ (z.toInt = 0 ∧ 0 ≤ a0.toInt ∧ a0.toInt ≤ 4 ∧ 2 ≤ (h.1 70 4).toInt ∧ (h.1 70 4).toInt ≤ 6 ∧ a0.toInt ≤ (h.1 70 4).toInt + (-2)) ∨ (z.toInt = 1 ∧ 0 ≤ a0.toInt ∧ a0.toInt ≤ 4 ∧ 2 ≤ (h.1 70 4).toInt ∧ (h.1 70 4).toInt ≤ 6 ∧ a0.toInt ≤ (h.1 70 4).toInt + (-2)))
set_option maxHeartbeats 4000000 in
set_option maxRecDepth 100000 in
theorem k_X2_nextIsFree (h : PH) (hI : INV h) (a0 : Int32) (a1 : Int32) (h0a : 0 ≤ a0.toInt ∧ a0.toInt ≤ 5) (h1a : 0 ≤ a1.toInt ∧ a1.toInt ≤ 59) : CALL d_X2_nextIsFree [.inr (.inr (.inl 70)), .inl a0, .inl a1] h (q_X2_nextIsFree h a0 a1) := by
  show RUN d_X2_nextIsFree 0 [(0, .inr (.inr (.inl 70))), (1, .inl a0), (2, .inl a1)] [] h _
  refine R_iload_n (k := 1) rfl rfl rfl ?_
  refine R_iconst 1 rfl rfl ?_
  refine N_iadd (a := a0.toInt) (b := 1) rfl rfl (by decide) (by omega) (fun x1 q2 => ?_)
  refine R_istore_n (k := 3) rfl [(3, .inl x1), (0, .inr (.inr (.inl 70))), (1, .inl a0), (2, .inl a1)] rfl rfl (by decide) ?_
  refine R_iload_n (k := 3) rfl rfl rfl ?_
  refine R_aload_n (k := 0) rfl rfl rfl ?_
  refine R_getf_i (j := 4) rfl ft_2_25 sh_70 rfl ?_
  have b3 : (0 : Int) ≤ (h.1 70 4).toInt ∧ (h.1 70 4).toInt ≤ 6 := hI.1 70 4
  refine N_icmp_ge (a := x1.toInt) (b := (h.1 70 4).toInt) 36 rfl rfl rfl rfl (fun c4 => ?_) (fun c4 => ?_)
  · refine R_iconst 1 rfl rfl ?_
    refine R_goto 41 rfl rfl ?_
    exact R_iret rfl rfl rfl ⟨rfl, _, rfl, by rw [show (1 : Int32).toInt = 1 from rfl]; omega⟩
  · refine R_aload_n (k := 0) rfl rfl rfl ?_
    refine R_getf_r (j := 3) rfl ft_2_22 sh_70 rfl ?_
    refine R_iload_n (k := 3) rfl rfl rfl ?_
    refine R_iald rfl sh_74 ⟨by omega, by omega⟩ ?_
    refine N_any (fun x5 => ?_)
    refine N_if_ne (a := x5.toInt) 40 rfl rfl rfl (fun c6 => ?_) (fun c6 => ?_)
    · refine R_iconst 0 rfl rfl ?_
      exact R_iret rfl rfl rfl ⟨rfl, _, rfl, by rw [show (0 : Int32).toInt = 0 from rfl]; omega⟩
    · refine R_aload_n (k := 0) rfl rfl rfl ?_
      refine R_getf_r (j := 2) rfl ft_2_18 sh_70 rfl ?_
      refine R_iload_n (k := 3) rfl rfl rfl ?_
      refine R_lald rfl sh_73 ⟨by omega, by omega⟩ ?_
      refine N_anyL (fun w7 => ?_)
      refine R_iload_n (k := 2) rfl rfl rfl ?_
      refine R_lushr rfl ?_
      refine N_anyL (fun w8 => ?_)
      refine R_lconst 1 rfl rfl ?_
      refine R_land rfl ?_
      refine N_anyL (fun w9 => ?_)
      refine R_lconst 0 rfl rfl ?_
      refine N_lcmp (a := w9.toInt) (b := 0) rfl rfl (by decide) (fun x10 q11 => ?_)
      refine N_if_ne (a := x10.toInt) 40 rfl rfl rfl (fun c12 => ?_) (fun c12 => ?_)
      · refine R_iconst 0 rfl rfl ?_
        exact R_iret rfl rfl rfl ⟨rfl, _, rfl, by rw [show (0 : Int32).toInt = 0 from rfl]; omega⟩
      · refine R_iconst 1 rfl rfl ?_
        refine R_goto 41 rfl rfl ?_
        exact R_iret rfl rfl rfl ⟨rfl, _, rfl, by rw [show (1 : Int32).toInt = 1 from rfl]; omega⟩
abbrev q_X2_passOn (h : PH) (a0 : Int32) : Option PV → PH → Prop := fun r h' => INV h' ∧ FR [74] h h' ∧ (True) ∧ r = none
set_option maxHeartbeats 4000000 in
set_option maxRecDepth 100000 in
theorem k_X2_passOn (h : PH) (hI : INV h) (a0 : Int32) (h0a : 0 ≤ a0.toInt ∧ a0.toInt ≤ 5) : CALL d_X2_passOn [.inr (.inr (.inl 70)), .inl a0] h (q_X2_passOn h a0) := by
  show RUN d_X2_passOn 0 [(0, .inr (.inr (.inl 70))), (1, .inl a0)] [] h _
  have fr : FR [74] h h := FR.rf _ _
  refine R_aload_n (k := 0) rfl rfl rfl ?_
  refine R_getf_r (j := 3) rfl ft_2_22 sh_70 rfl ?_
  refine R_iload_n (k := 1) rfl rfl rfl ?_
  refine R_iconst 0 rfl rfl ?_
  refine K_iast (a := a0.toInt) (lo := (-2147483648)) (hi' := 2147483647) rfl sh_74 rfl ⟨by omega, by omega⟩ hI (by decide) rfl (by decide) fr (by decide) (fun h1 g2 hI fr => ?_)
  refine R_iload_n (k := 1) rfl rfl rfl ?_
  refine R_iconst 1 rfl rfl ?_
  refine N_iadd (a := a0.toInt) (b := 1) rfl rfl (by decide) (by omega) (fun x3 q4 => ?_)
  refine R_aload_n (k := 0) rfl rfl rfl ?_
  refine R_getf_i (j := 4) rfl ft_2_25 sh_70 rfl ?_
  have b5 : (0 : Int) ≤ (h1.1 70 4).toInt ∧ (h1.1 70 4).toInt ≤ 6 := hI.1 70 4
  refine N_icmp_ge (a := x3.toInt) (b := (h1.1 70 4).toInt) 26 rfl rfl rfl rfl (fun c6 => ?_) (fun c6 => ?_)
  · exact R_vret rfl rfl ⟨hI, fr, trivial, rfl⟩
  · refine R_aload_n (k := 0) rfl rfl rfl ?_
    refine R_getf_r (j := 3) rfl ft_2_22 sh_70 rfl ?_
    refine R_iload_n (k := 1) rfl rfl rfl ?_
    refine R_iconst 1 rfl rfl ?_
    refine N_iadd (a := a0.toInt) (b := 1) rfl rfl (by decide) (by omega) (fun x7 q8 => ?_)
    refine R_iconst 1 rfl rfl ?_
    refine K_iast (a := x7.toInt) (lo := (-2147483648)) (hi' := 2147483647) rfl sh_74 rfl ⟨by omega, by omega⟩ hI (by decide) rfl (by decide) fr (by decide) (fun h9 g10 hI fr => ?_)
    have s11 : (h9.1 70 4).toInt = (h1.1 70 4).toInt := by rw [g10, wI_ne _ _ _ (by decide)]
    exact R_vret rfl rfl ⟨hI, fr, trivial, rfl⟩
abbrev q_X2_isThrow (h : PH) (a0 : Int32) : Option PV → PH → Prop := fun r h' => h = h' ∧ ∃ z : Int32, r = some (.inl z) ∧ ((z.toInt = 0 ∧ (h.1 70 4).toInt = 0) ∨ (z.toInt = 0 ∧ 1 ≤ (h.1 70 4).toInt ∧ (h.1 70 4).toInt ≤ 6) ∨ (z.toInt = 1 ∧ 1 ≤ (h.1 70 4).toInt ∧ (h.1 70 4).toInt ≤ 6))
set_option maxHeartbeats 4000000 in
set_option maxRecDepth 100000 in
theorem k_X2_isThrow (h : PH) (hI : INV h) (a0 : Int32) : CALL d_X2_isThrow [.inr (.inr (.inl 70)), .inl a0] h (q_X2_isThrow h a0) := by
  show RUN d_X2_isThrow 0 [(0, .inr (.inr (.inl 70))), (1, .inl a0)] [] h _
  have b1 := i_rng a0
  refine R_aload_n (k := 0) rfl rfl rfl ?_
  refine R_getf_i (j := 4) rfl ft_2_25 sh_70 rfl ?_
  have b2 : (0 : Int) ≤ (h.1 70 4).toInt ∧ (h.1 70 4).toInt ≤ 6 := hI.1 70 4
  refine N_if_le (a := (h.1 70 4).toInt) 24 rfl rfl rfl (fun c3 => ?_) (fun c3 => ?_)
  · refine R_iconst 0 rfl rfl ?_
    exact R_iret rfl rfl rfl ⟨rfl, _, rfl, by rw [show (0 : Int32).toInt = 0 from rfl]; omega⟩
  · refine R_iload_n (k := 1) rfl rfl rfl ?_
    refine R_aload_n (k := 0) rfl rfl rfl ?_
    refine R_getf_i (j := 4) rfl ft_2_25 sh_70 rfl ?_
    refine R_iconst 1 rfl rfl ?_
    refine N_isub (a := (h.1 70 4).toInt) (b := 1) rfl rfl (by decide) (by omega) (fun x4 q5 => ?_)
    refine R_ishr rfl ?_
    refine N_any (fun x6 => ?_)
    refine R_iconst 1 rfl rfl ?_
    refine N_iand (b := 1) rfl (by decide) (by omega) (fun x7 q8 => ?_)
    refine N_if_eq (a := x7.toInt) 24 rfl rfl rfl (fun c9 => ?_) (fun c9 => ?_)
    · refine R_iconst 0 rfl rfl ?_
      exact R_iret rfl rfl rfl ⟨rfl, _, rfl, by rw [show (0 : Int32).toInt = 0 from rfl]; omega⟩
    · refine R_iconst 1 rfl rfl ?_
      refine R_goto 25 rfl rfl ?_
      exact R_iret rfl rfl rfl ⟨rfl, _, rfl, by rw [show (1 : Int32).toInt = 1 from rfl]; omega⟩
abbrev q_X2_step (h : PH) (a0 : Int32) (a1 : Int32) : Option PV → PH → Prop := fun r h' => INV h' ∧ FR [70, 74] h h' ∧ (True) ∧ ∃ z : Int32, r = some (.inl z) ∧ ((True))
set_option maxHeartbeats 4000000 in
set_option maxRecDepth 100000 in
theorem k_X2_step (h : PH) (hI : INV h) (a0 : Int32) (a1 : Int32) (h0a : 0 ≤ a0.toInt ∧ a0.toInt ≤ 59) (h1a : 0 ≤ a1.toInt ∧ a1.toInt ≤ 1) : CALL d_X2_step [.inr (.inr (.inl 70)), .inl a0, .inl a1] h (q_X2_step h a0 a1) := by
  show RUN d_X2_step 0 [(0, .inr (.inr (.inl 70))), (1, .inl a0), (2, .inl a1)] [] h _
  have fr : FR [70, 74] h h := FR.rf _ _
  refine R_aload_n (k := 0) rfl rfl rfl ?_
  refine R_getf_i (j := 9) rfl ft_2_41 sh_70 rfl ?_
  refine N_i2l rfl (fun w1 q2 => ?_)
  refine R_aload_n (k := 0) rfl rfl rfl ?_
  refine R_getf_i (j := 7) rfl ft_2_35 sh_70 rfl ?_
  refine R_callS (As := [.inr (.inl w1), .inl (h.1 70 7)]) (rest := []) rfl mt_2_i69 (by decide) pp_X8_hasBit (by decide) rfl rfl (Nat.le_of_ble_eq_true rfl) (Nat.le_of_ble_eq_true rfl) ((k_X8_hasBit h hI w1 (h.1 70 7)).mono (fun r3 h4 p5 => ?_))
  obtain ⟨rfl, x6, rfl, q7 | q7⟩ := p5
  · show RUN d_X2_step 12 [(0, .inr (.inr (.inl 70))), (1, .inl a0), (2, .inl a1)] [.inl x6] h _
    refine N_if_eq (a := x6.toInt) 25 rfl rfl rfl (fun c8 => ?_) (fun c8 => ?_)
    · refine R_iconst 0 rfl rfl ?_
      refine R_istore_n (k := 3) rfl [(3, .inl 0), (0, .inr (.inr (.inl 70))), (1, .inl a0), (2, .inl a1)] rfl rfl (by decide) ?_
      refine R_aload_n (k := 0) rfl rfl rfl ?_
      refine R_getf_i (j := 4) rfl ft_2_25 sh_70 rfl ?_
      have b9 : (0 : Int) ≤ (h.1 70 4).toInt ∧ (h.1 70 4).toInt ≤ 6 := hI.1 70 4
      refine R_iconst 1 rfl rfl ?_
      refine N_isub (a := (h.1 70 4).toInt) (b := 1) rfl rfl (by decide) (by omega) (fun x10 q11 => ?_)
      refine R_istore (k := 4) [(4, .inl x10), (3, .inl 0), (0, .inr (.inr (.inl 70))), (1, .inl a0), (2, .inl a1)] rfl rfl (by decide) ?_
      have lp13 : ∀ (n12 : Nat) (h14 : PH) (x16 : Int32) (x17 : Int32), INV h14 → FR [70, 74] h h14 → FR [70, 74] h h14 → (-1) ≤ x17.toInt ∧ x17.toInt ≤ 5 → (h14.1 70 7).toInt = (h.1 70 7).toInt → (h14.1 70 4).toInt = (h.1 70 4).toInt → True → x17.toInt ≤ (h.1 70 4).toInt + (-1) → (x17.toInt - (-1)).toNat < n12 → RUN d_X2_step 35 [(4, .inl x17), (3, .inl x16), (0, .inr (.inr (.inl 70))), (1, .inl a0), (2, .inl a1)] [] h14 (q_X2_step h a0 a1) := by
        intro n12
        induction n12 with
        | zero => intro h14 x16 x17 m19 m20 m21 m22 m23 m24 m25 m26 hz; exact absurd hz (Nat.not_lt_zero _)
        | succ n12 ih18 =>
          intro h14 x16 x17 hI fr fl15 m22 m23 m24 m25 m26 hz
          refine R_iload (k := 4) rfl rfl ?_
          refine N_if_lt (a := x17.toInt) 131 rfl rfl rfl (fun c27 => ?_) (fun c27 => ?_)
          · refine R_aload_n (k := 0) rfl rfl rfl ?_
            refine R_getf_i (j := 4) rfl ft_2_25 sh_70 rfl ?_
            refine N_if_le (a := (h14.1 70 4).toInt) 184 rfl rfl rfl (fun c28 => ?_) (fun c28 => ?_)
            · refine R_aload_n (k := 0) rfl rfl rfl ?_
              refine R_aload_n (k := 0) rfl rfl rfl ?_
              refine R_getf_i (j := 9) rfl ft_2_41 sh_70 rfl ?_
              refine R_iconst 1 rfl rfl ?_
              refine R_ishl rfl ?_
              refine N_any (fun x29 => ?_)
              refine R_iconst 2 rfl rfl ?_
              refine R_aload_n (k := 0) rfl rfl rfl ?_
              refine R_getf_i (j := 7) rfl ft_2_35 sh_70 rfl ?_
              refine R_ishl rfl ?_
              refine N_any (fun x30 => ?_)
              refine R_iconst 1 rfl rfl ?_
              have b31 := i_rng x30
              refine R_isub rfl ?_
              refine N_any (fun x32 => ?_)
              refine R_iand rfl ?_
              refine N_any (fun x33 => ?_)
              refine K_putf (j := 9) (lo := (-2147483648)) (hi' := 2147483647) rfl ft_2_41 sh_70 rfl hI (by decide) rfl (i_rng _) fr (by decide) (fun h34 g35 hI fr => ?_)
              have fl15 : FR [70, 74] h h34 := by rw [g35]; exact FR_wI _ _ fl15 (by decide)
              have s36 : (h34.1 70 7).toInt = (h14.1 70 7).toInt := by rw [g35, wI_at (by decide)]
              have s37 : (h34.1 70 4).toInt = (h14.1 70 4).toInt := by rw [g35, wI_at (by decide)]
              have s38 : (h34.1 70 9).toInt = x33.toInt := by rw [g35, wI_is]
              refine R_aload_n (k := 0) rfl rfl rfl ?_
              refine R_iload_n (k := 3) rfl rfl rfl ?_
              refine R_callV (v := .inr (.inr (.inl 70))) (As := [.inl x16]) (rest := []) rfl mt_2_i77 pp_X2_isThrow (by decide) rfl rfl rfl (Nat.le_of_ble_eq_true rfl) (Nat.le_of_ble_eq_true rfl) ((k_X2_isThrow h34 hI x16).mono (fun r39 h40 p41 => ?_))
              obtain ⟨rfl, x42, rfl, q43 | q43 | q43⟩ := p41
              · show RUN d_X2_step 208 [(4, .inl x17), (3, .inl x16), (0, .inr (.inr (.inl 70))), (1, .inl a0), (2, .inl a1)] [.inl x42] h34 _
                refine N_if_eq (a := x42.toInt) 221 rfl rfl rfl (fun c44 => ?_) (fun c44 => ?_)
                · refine R_iload_n (k := 3) rfl rfl rfl ?_
                  exact R_iret rfl rfl rfl ⟨hI, fr, trivial, _, rfl, trivial⟩
                · exfalso; omega
              · exfalso; omega
              · exfalso; omega
            · refine R_aload_n (k := 0) rfl rfl rfl ?_
              refine R_getf_i (j := 8) rfl ft_2_38 sh_70 rfl ?_
              refine N_if_le (a := (h14.1 70 8).toInt) 184 rfl rfl rfl (fun c45 => ?_) (fun c45 => ?_)
              · refine R_aload_n (k := 0) rfl rfl rfl ?_
                refine R_aload_n (k := 0) rfl rfl rfl ?_
                refine R_getf_i (j := 9) rfl ft_2_41 sh_70 rfl ?_
                refine R_iconst 1 rfl rfl ?_
                refine R_ishl rfl ?_
                refine N_any (fun x46 => ?_)
                refine R_iconst 2 rfl rfl ?_
                refine R_aload_n (k := 0) rfl rfl rfl ?_
                refine R_getf_i (j := 7) rfl ft_2_35 sh_70 rfl ?_
                refine R_ishl rfl ?_
                refine N_any (fun x47 => ?_)
                refine R_iconst 1 rfl rfl ?_
                have b48 := i_rng x47
                refine R_isub rfl ?_
                refine N_any (fun x49 => ?_)
                refine R_iand rfl ?_
                refine N_any (fun x50 => ?_)
                refine K_putf (j := 9) (lo := (-2147483648)) (hi' := 2147483647) rfl ft_2_41 sh_70 rfl hI (by decide) rfl (i_rng _) fr (by decide) (fun h51 g52 hI fr => ?_)
                have fl15 : FR [70, 74] h h51 := by rw [g52]; exact FR_wI _ _ fl15 (by decide)
                have s53 : (h51.1 70 7).toInt = (h14.1 70 7).toInt := by rw [g52, wI_at (by decide)]
                have s54 : (h51.1 70 4).toInt = (h14.1 70 4).toInt := by rw [g52, wI_at (by decide)]
                have s55 : (h51.1 70 8).toInt = (h14.1 70 8).toInt := by rw [g52, wI_at (by decide)]
                have s56 : (h51.1 70 9).toInt = x50.toInt := by rw [g52, wI_is]
                refine R_aload_n (k := 0) rfl rfl rfl ?_
                refine R_iload_n (k := 3) rfl rfl rfl ?_
                refine R_callV (v := .inr (.inr (.inl 70))) (As := [.inl x16]) (rest := []) rfl mt_2_i77 pp_X2_isThrow (by decide) rfl rfl rfl (Nat.le_of_ble_eq_true rfl) (Nat.le_of_ble_eq_true rfl) ((k_X2_isThrow h51 hI x16).mono (fun r57 h58 p59 => ?_))
                obtain ⟨rfl, x60, rfl, q61 | q61 | q61⟩ := p59
                · exfalso; omega
                · show RUN d_X2_step 208 [(4, .inl x17), (3, .inl x16), (0, .inr (.inr (.inl 70))), (1, .inl a0), (2, .inl a1)] [.inl x60] h51 _
                  refine N_if_eq (a := x60.toInt) 221 rfl rfl rfl (fun c62 => ?_) (fun c62 => ?_)
                  · refine R_iload_n (k := 3) rfl rfl rfl ?_
                    exact R_iret rfl rfl rfl ⟨hI, fr, trivial, _, rfl, trivial⟩
                  · exfalso; omega
                · show RUN d_X2_step 208 [(4, .inl x17), (3, .inl x16), (0, .inr (.inr (.inl 70))), (1, .inl a0), (2, .inl a1)] [.inl x60] h51 _
                  refine N_if_eq (a := x60.toInt) 221 rfl rfl rfl (fun c63 => ?_) (fun c63 => ?_)
                  · exfalso; omega
                  · refine R_aload_n (k := 0) rfl rfl rfl ?_
                    refine R_dup_r rfl ?_
                    refine R_getf_i (j := 9) rfl ft_2_41 sh_70 rfl ?_
                    refine R_iconst 1 rfl rfl ?_
                    refine R_ior rfl ?_
                    refine N_any (fun x64 => ?_)
                    refine K_putf (j := 9) (lo := (-2147483648)) (hi' := 2147483647) rfl ft_2_41 sh_70 rfl hI (by decide) rfl (i_rng _) fr (by decide) (fun h65 g66 hI fr => ?_)
                    have fl15 : FR [70, 74] h h65 := by rw [g66]; exact FR_wI _ _ fl15 (by decide)
                    have s67 : (h65.1 70 7).toInt = (h51.1 70 7).toInt := by rw [g66, wI_at (by decide)]
                    have s68 : (h65.1 70 4).toInt = (h51.1 70 4).toInt := by rw [g66, wI_at (by decide)]
                    have s69 : (h65.1 70 8).toInt = (h51.1 70 8).toInt := by rw [g66, wI_at (by decide)]
                    have s70 : (h65.1 70 9).toInt = x64.toInt := by rw [g66, wI_is]
                    refine R_iload_n (k := 3) rfl rfl rfl ?_
                    exact R_iret rfl rfl rfl ⟨hI, fr, trivial, _, rfl, trivial⟩
              · refine R_aload_n (k := 0) rfl rfl rfl ?_
                refine R_getf_r (j := 3) rfl ft_2_22 sh_70 rfl ?_
                refine R_iconst 0 rfl rfl ?_
                refine R_iald rfl sh_74 (by decide) ?_
                show RUN d_X2_step 151 [(4, .inl x17), (3, .inl x16), (0, .inr (.inr (.inl 70))), (1, .inl a0), (2, .inl a1)] [.inl (h14.1 74 0)] h14 _
                refine N_if_ne (a := (h14.1 74 0).toInt) 184 rfl rfl rfl (fun c71 => ?_) (fun c71 => ?_)
                · refine R_aload_n (k := 0) rfl rfl rfl ?_
                  refine R_aload_n (k := 0) rfl rfl rfl ?_
                  refine R_getf_i (j := 9) rfl ft_2_41 sh_70 rfl ?_
                  refine R_iconst 1 rfl rfl ?_
                  refine R_ishl rfl ?_
                  refine N_any (fun x72 => ?_)
                  refine R_iconst 2 rfl rfl ?_
                  refine R_aload_n (k := 0) rfl rfl rfl ?_
                  refine R_getf_i (j := 7) rfl ft_2_35 sh_70 rfl ?_
                  refine R_ishl rfl ?_
                  refine N_any (fun x73 => ?_)
                  refine R_iconst 1 rfl rfl ?_
                  have b74 := i_rng x73
                  refine R_isub rfl ?_
                  refine N_any (fun x75 => ?_)
                  refine R_iand rfl ?_
                  refine N_any (fun x76 => ?_)
                  refine K_putf (j := 9) (lo := (-2147483648)) (hi' := 2147483647) rfl ft_2_41 sh_70 rfl hI (by decide) rfl (i_rng _) fr (by decide) (fun h77 g78 hI fr => ?_)
                  have fl15 : FR [70, 74] h h77 := by rw [g78]; exact FR_wI _ _ fl15 (by decide)
                  have s79 : (h77.1 70 7).toInt = (h14.1 70 7).toInt := by rw [g78, wI_at (by decide)]
                  have s80 : (h77.1 70 4).toInt = (h14.1 70 4).toInt := by rw [g78, wI_at (by decide)]
                  have s81 : (h77.1 70 8).toInt = (h14.1 70 8).toInt := by rw [g78, wI_at (by decide)]
                  have s82 : (h77.1 74 0).toInt = (h14.1 74 0).toInt := by rw [g78, wI_ne _ _ _ (by decide)]
                  have s83 : (h77.1 70 9).toInt = x76.toInt := by rw [g78, wI_is]
                  refine R_aload_n (k := 0) rfl rfl rfl ?_
                  refine R_iload_n (k := 3) rfl rfl rfl ?_
                  refine R_callV (v := .inr (.inr (.inl 70))) (As := [.inl x16]) (rest := []) rfl mt_2_i77 pp_X2_isThrow (by decide) rfl rfl rfl (Nat.le_of_ble_eq_true rfl) (Nat.le_of_ble_eq_true rfl) ((k_X2_isThrow h77 hI x16).mono (fun r84 h85 p86 => ?_))
                  obtain ⟨rfl, x87, rfl, q88 | q88 | q88⟩ := p86
                  · exfalso; omega
                  · show RUN d_X2_step 208 [(4, .inl x17), (3, .inl x16), (0, .inr (.inr (.inl 70))), (1, .inl a0), (2, .inl a1)] [.inl x87] h77 _
                    refine N_if_eq (a := x87.toInt) 221 rfl rfl rfl (fun c89 => ?_) (fun c89 => ?_)
                    · refine R_iload_n (k := 3) rfl rfl rfl ?_
                      exact R_iret rfl rfl rfl ⟨hI, fr, trivial, _, rfl, trivial⟩
                    · exfalso; omega
                  · show RUN d_X2_step 208 [(4, .inl x17), (3, .inl x16), (0, .inr (.inr (.inl 70))), (1, .inl a0), (2, .inl a1)] [.inl x87] h77 _
                    refine N_if_eq (a := x87.toInt) 221 rfl rfl rfl (fun c90 => ?_) (fun c90 => ?_)
                    · exfalso; omega
                    · refine R_aload_n (k := 0) rfl rfl rfl ?_
                      refine R_dup_r rfl ?_
                      refine R_getf_i (j := 9) rfl ft_2_41 sh_70 rfl ?_
                      refine R_iconst 1 rfl rfl ?_
                      refine R_ior rfl ?_
                      refine N_any (fun x91 => ?_)
                      refine K_putf (j := 9) (lo := (-2147483648)) (hi' := 2147483647) rfl ft_2_41 sh_70 rfl hI (by decide) rfl (i_rng _) fr (by decide) (fun h92 g93 hI fr => ?_)
                      have fl15 : FR [70, 74] h h92 := by rw [g93]; exact FR_wI _ _ fl15 (by decide)
                      have s94 : (h92.1 70 7).toInt = (h77.1 70 7).toInt := by rw [g93, wI_at (by decide)]
                      have s95 : (h92.1 70 4).toInt = (h77.1 70 4).toInt := by rw [g93, wI_at (by decide)]
                      have s96 : (h92.1 70 8).toInt = (h77.1 70 8).toInt := by rw [g93, wI_at (by decide)]
                      have s97 : (h92.1 74 0).toInt = (h77.1 74 0).toInt := by rw [g93, wI_ne _ _ _ (by decide)]
                      have s98 : (h92.1 70 9).toInt = x91.toInt := by rw [g93, wI_is]
                      refine R_iload_n (k := 3) rfl rfl rfl ?_
                      exact R_iret rfl rfl rfl ⟨hI, fr, trivial, _, rfl, trivial⟩
                · refine R_aload_n (k := 0) rfl rfl rfl ?_
                  refine R_getf_r (j := 2) rfl ft_2_18 sh_70 rfl ?_
                  refine R_iconst 0 rfl rfl ?_
                  refine R_lald rfl sh_73 (by decide) ?_
                  refine N_anyL (fun w99 => ?_)
                  refine R_iload_n (k := 1) rfl rfl rfl ?_
                  refine R_callS (As := [.inr (.inl w99), .inl a0]) (rest := []) rfl mt_2_i69 (by decide) pp_X8_hasBit (by decide) rfl rfl (Nat.le_of_ble_eq_true rfl) (Nat.le_of_ble_eq_true rfl) ((k_X8_hasBit h14 hI w99 a0).mono (fun r100 h101 p102 => ?_))
                  obtain ⟨rfl, x103, rfl, q104 | q104⟩ := p102
                  · show RUN d_X2_step 164 [(4, .inl x17), (3, .inl x16), (0, .inr (.inr (.inl 70))), (1, .inl a0), (2, .inl a1)] [.inl x103] h14 _
                    refine N_if_ne (a := x103.toInt) 184 rfl rfl rfl (fun c105 => ?_) (fun c105 => ?_)
                    · exfalso; omega
                    · refine R_aload_n (k := 0) rfl rfl rfl ?_
                      refine R_dup_r rfl ?_
                      refine R_getf_i (j := 8) rfl ft_2_38 sh_70 rfl ?_
                      refine R_iconst 1 rfl rfl ?_
                      have b106 := i_rng (h14.1 70 8)
                      refine N_isub (a := (h14.1 70 8).toInt) (b := 1) rfl rfl (by decide) (by omega) (fun x107 q108 => ?_)
                      refine K_putf (j := 8) (lo := (-2147483648)) (hi' := 2147483647) rfl ft_2_38 sh_70 rfl hI (by decide) rfl (i_rng _) fr (by decide) (fun h109 g110 hI fr => ?_)
                      have fl15 : FR [70, 74] h h109 := by rw [g110]; exact FR_wI _ _ fl15 (by decide)
                      have s111 : (h109.1 70 9).toInt = (h14.1 70 9).toInt := by rw [g110, wI_at (by decide)]
                      have s112 : (h109.1 70 7).toInt = (h14.1 70 7).toInt := by rw [g110, wI_at (by decide)]
                      have s113 : (h109.1 70 4).toInt = (h14.1 70 4).toInt := by rw [g110, wI_at (by decide)]
                      have s114 : (h109.1 74 0).toInt = (h14.1 74 0).toInt := by rw [g110, wI_ne _ _ _ (by decide)]
                      have s115 : (h109.1 70 8).toInt = x107.toInt := by rw [g110, wI_is]
                      refine R_aload_n (k := 0) rfl rfl rfl ?_
                      refine R_getf_r (j := 3) rfl ft_2_22 sh_70 rfl ?_
                      refine R_iconst 0 rfl rfl ?_
                      refine R_iconst 1 rfl rfl ?_
                      refine K_iast (a := 0) (lo := (-2147483648)) (hi' := 2147483647) rfl sh_74 (by decide) (by decide) hI (by decide) rfl (by decide) fr (by decide) (fun h116 g117 hI fr => ?_)
                      have fl15 : FR [70, 74] h h116 := by rw [g117]; exact FR_wI _ _ fl15 (by decide)
                      have s118 : (h116.1 70 9).toInt = (h109.1 70 9).toInt := by rw [g117, wI_ne _ _ _ (by decide)]
                      have s119 : (h116.1 70 7).toInt = (h109.1 70 7).toInt := by rw [g117, wI_ne _ _ _ (by decide)]
                      have s120 : (h116.1 70 4).toInt = (h109.1 70 4).toInt := by rw [g117, wI_ne _ _ _ (by decide)]
                      have s121 : (h116.1 70 8).toInt = (h109.1 70 8).toInt := by rw [g117, wI_ne _ _ _ (by decide)]
                      have s122 : (h116.1 74 0).toInt = 1 := by rw [g117, show (0 : Int32).toNatClampNeg = 0 from rfl, wI_is]; rfl
                      refine R_aload_n (k := 0) rfl rfl rfl ?_
                      refine R_aload_n (k := 0) rfl rfl rfl ?_
                      refine R_getf_i (j := 9) rfl ft_2_41 sh_70 rfl ?_
                      refine R_iconst 1 rfl rfl ?_
                      refine R_ishl rfl ?_
                      refine N_any (fun x123 => ?_)
                      refine R_iconst 2 rfl rfl ?_
                      refine R_aload_n (k := 0) rfl rfl rfl ?_
                      refine R_getf_i (j := 7) rfl ft_2_35 sh_70 rfl ?_
                      refine R_ishl rfl ?_
                      refine N_any (fun x124 => ?_)
                      refine R_iconst 1 rfl rfl ?_
                      have b125 := i_rng x124
                      refine R_isub rfl ?_
                      refine N_any (fun x126 => ?_)
                      refine R_iand rfl ?_
                      refine N_any (fun x127 => ?_)
                      refine K_putf (j := 9) (lo := (-2147483648)) (hi' := 2147483647) rfl ft_2_41 sh_70 rfl hI (by decide) rfl (i_rng _) fr (by decide) (fun h128 g129 hI fr => ?_)
                      have fl15 : FR [70, 74] h h128 := by rw [g129]; exact FR_wI _ _ fl15 (by decide)
                      have s130 : (h128.1 70 7).toInt = (h116.1 70 7).toInt := by rw [g129, wI_at (by decide)]
                      have s131 : (h128.1 70 4).toInt = (h116.1 70 4).toInt := by rw [g129, wI_at (by decide)]
                      have s132 : (h128.1 70 8).toInt = (h116.1 70 8).toInt := by rw [g129, wI_at (by decide)]
                      have s133 : (h128.1 74 0).toInt = (h116.1 74 0).toInt := by rw [g129, wI_ne _ _ _ (by decide)]
                      have s134 : (h128.1 70 9).toInt = x127.toInt := by rw [g129, wI_is]
                      refine R_aload_n (k := 0) rfl rfl rfl ?_
                      refine R_iload_n (k := 3) rfl rfl rfl ?_
                      refine R_callV (v := .inr (.inr (.inl 70))) (As := [.inl x16]) (rest := []) rfl mt_2_i77 pp_X2_isThrow (by decide) rfl rfl rfl (Nat.le_of_ble_eq_true rfl) (Nat.le_of_ble_eq_true rfl) ((k_X2_isThrow h128 hI x16).mono (fun r135 h136 p137 => ?_))
                      obtain ⟨rfl, x138, rfl, q139 | q139 | q139⟩ := p137
                      · exfalso; omega
                      · show RUN d_X2_step 208 [(4, .inl x17), (3, .inl x16), (0, .inr (.inr (.inl 70))), (1, .inl a0), (2, .inl a1)] [.inl x138] h128 _
                        refine N_if_eq (a := x138.toInt) 221 rfl rfl rfl (fun c140 => ?_) (fun c140 => ?_)
                        · refine R_iload_n (k := 3) rfl rfl rfl ?_
                          exact R_iret rfl rfl rfl ⟨hI, fr, trivial, _, rfl, trivial⟩
                        · exfalso; omega
                      · show RUN d_X2_step 208 [(4, .inl x17), (3, .inl x16), (0, .inr (.inr (.inl 70))), (1, .inl a0), (2, .inl a1)] [.inl x138] h128 _
                        refine N_if_eq (a := x138.toInt) 221 rfl rfl rfl (fun c141 => ?_) (fun c141 => ?_)
                        · exfalso; omega
                        · refine R_aload_n (k := 0) rfl rfl rfl ?_
                          refine R_dup_r rfl ?_
                          refine R_getf_i (j := 9) rfl ft_2_41 sh_70 rfl ?_
                          refine R_iconst 1 rfl rfl ?_
                          refine R_ior rfl ?_
                          refine N_any (fun x142 => ?_)
                          refine K_putf (j := 9) (lo := (-2147483648)) (hi' := 2147483647) rfl ft_2_41 sh_70 rfl hI (by decide) rfl (i_rng _) fr (by decide) (fun h143 g144 hI fr => ?_)
                          have fl15 : FR [70, 74] h h143 := by rw [g144]; exact FR_wI _ _ fl15 (by decide)
                          have s145 : (h143.1 70 7).toInt = (h128.1 70 7).toInt := by rw [g144, wI_at (by decide)]
                          have s146 : (h143.1 70 4).toInt = (h128.1 70 4).toInt := by rw [g144, wI_at (by decide)]
                          have s147 : (h143.1 70 8).toInt = (h128.1 70 8).toInt := by rw [g144, wI_at (by decide)]
                          have s148 : (h143.1 74 0).toInt = (h128.1 74 0).toInt := by rw [g144, wI_ne _ _ _ (by decide)]
                          have s149 : (h143.1 70 9).toInt = x142.toInt := by rw [g144, wI_is]
                          refine R_iload_n (k := 3) rfl rfl rfl ?_
                          exact R_iret rfl rfl rfl ⟨hI, fr, trivial, _, rfl, trivial⟩
                  · show RUN d_X2_step 164 [(4, .inl x17), (3, .inl x16), (0, .inr (.inr (.inl 70))), (1, .inl a0), (2, .inl a1)] [.inl x103] h14 _
                    refine N_if_ne (a := x103.toInt) 184 rfl rfl rfl (fun c150 => ?_) (fun c150 => ?_)
                    · refine R_aload_n (k := 0) rfl rfl rfl ?_
                      refine R_aload_n (k := 0) rfl rfl rfl ?_
                      refine R_getf_i (j := 9) rfl ft_2_41 sh_70 rfl ?_
                      refine R_iconst 1 rfl rfl ?_
                      refine R_ishl rfl ?_
                      refine N_any (fun x151 => ?_)
                      refine R_iconst 2 rfl rfl ?_
                      refine R_aload_n (k := 0) rfl rfl rfl ?_
                      refine R_getf_i (j := 7) rfl ft_2_35 sh_70 rfl ?_
                      refine R_ishl rfl ?_
                      refine N_any (fun x152 => ?_)
                      refine R_iconst 1 rfl rfl ?_
                      have b153 := i_rng x152
                      refine R_isub rfl ?_
                      refine N_any (fun x154 => ?_)
                      refine R_iand rfl ?_
                      refine N_any (fun x155 => ?_)
                      refine K_putf (j := 9) (lo := (-2147483648)) (hi' := 2147483647) rfl ft_2_41 sh_70 rfl hI (by decide) rfl (i_rng _) fr (by decide) (fun h156 g157 hI fr => ?_)
                      have fl15 : FR [70, 74] h h156 := by rw [g157]; exact FR_wI _ _ fl15 (by decide)
                      have s158 : (h156.1 70 7).toInt = (h14.1 70 7).toInt := by rw [g157, wI_at (by decide)]
                      have s159 : (h156.1 70 4).toInt = (h14.1 70 4).toInt := by rw [g157, wI_at (by decide)]
                      have s160 : (h156.1 70 8).toInt = (h14.1 70 8).toInt := by rw [g157, wI_at (by decide)]
                      have s161 : (h156.1 74 0).toInt = (h14.1 74 0).toInt := by rw [g157, wI_ne _ _ _ (by decide)]
                      have s162 : (h156.1 70 9).toInt = x155.toInt := by rw [g157, wI_is]
                      refine R_aload_n (k := 0) rfl rfl rfl ?_
                      refine R_iload_n (k := 3) rfl rfl rfl ?_
                      refine R_callV (v := .inr (.inr (.inl 70))) (As := [.inl x16]) (rest := []) rfl mt_2_i77 pp_X2_isThrow (by decide) rfl rfl rfl (Nat.le_of_ble_eq_true rfl) (Nat.le_of_ble_eq_true rfl) ((k_X2_isThrow h156 hI x16).mono (fun r163 h164 p165 => ?_))
                      obtain ⟨rfl, x166, rfl, q167 | q167 | q167⟩ := p165
                      · exfalso; omega
                      · show RUN d_X2_step 208 [(4, .inl x17), (3, .inl x16), (0, .inr (.inr (.inl 70))), (1, .inl a0), (2, .inl a1)] [.inl x166] h156 _
                        refine N_if_eq (a := x166.toInt) 221 rfl rfl rfl (fun c168 => ?_) (fun c168 => ?_)
                        · refine R_iload_n (k := 3) rfl rfl rfl ?_
                          exact R_iret rfl rfl rfl ⟨hI, fr, trivial, _, rfl, trivial⟩
                        · exfalso; omega
                      · show RUN d_X2_step 208 [(4, .inl x17), (3, .inl x16), (0, .inr (.inr (.inl 70))), (1, .inl a0), (2, .inl a1)] [.inl x166] h156 _
                        refine N_if_eq (a := x166.toInt) 221 rfl rfl rfl (fun c169 => ?_) (fun c169 => ?_)
                        · exfalso; omega
                        · refine R_aload_n (k := 0) rfl rfl rfl ?_
                          refine R_dup_r rfl ?_
                          refine R_getf_i (j := 9) rfl ft_2_41 sh_70 rfl ?_
                          refine R_iconst 1 rfl rfl ?_
                          refine R_ior rfl ?_
                          refine N_any (fun x170 => ?_)
                          refine K_putf (j := 9) (lo := (-2147483648)) (hi' := 2147483647) rfl ft_2_41 sh_70 rfl hI (by decide) rfl (i_rng _) fr (by decide) (fun h171 g172 hI fr => ?_)
                          have fl15 : FR [70, 74] h h171 := by rw [g172]; exact FR_wI _ _ fl15 (by decide)
                          have s173 : (h171.1 70 7).toInt = (h156.1 70 7).toInt := by rw [g172, wI_at (by decide)]
                          have s174 : (h171.1 70 4).toInt = (h156.1 70 4).toInt := by rw [g172, wI_at (by decide)]
                          have s175 : (h171.1 70 8).toInt = (h156.1 70 8).toInt := by rw [g172, wI_at (by decide)]
                          have s176 : (h171.1 74 0).toInt = (h156.1 74 0).toInt := by rw [g172, wI_ne _ _ _ (by decide)]
                          have s177 : (h171.1 70 9).toInt = x170.toInt := by rw [g172, wI_is]
                          refine R_iload_n (k := 3) rfl rfl rfl ?_
                          exact R_iret rfl rfl rfl ⟨hI, fr, trivial, _, rfl, trivial⟩
                    · exfalso; omega
          · refine R_aload_n (k := 0) rfl rfl rfl ?_
            refine R_getf_r (j := 3) rfl ft_2_22 sh_70 rfl ?_
            refine R_iload (k := 4) rfl rfl ?_
            refine R_iald rfl sh_74 ⟨by omega, by omega⟩ ?_
            refine N_any (fun x178 => ?_)
            refine N_if_eq (a := x178.toInt) 125 rfl rfl rfl (fun c179 => ?_) (fun c179 => ?_)
            · refine N_iinc (a := x17.toInt) (c := (-1)) (fun w => [(4, .inl w), (3, .inl x16), (0, .inr (.inr (.inl 70))), (1, .inl a0), (2, .inl a1)]) rfl rfl (fun _ => rfl) (by decide) rfl (by decide) (by omega) (fun x180 q181 => ?_)
              refine R_goto 35 rfl rfl ?_
              exact RUN_weak (psub_cons rfl (psub_cons rfl (psub_cons rfl (psub_cons rfl (psub_cons rfl (psub_nil _)))))) (ih18 h14 x16 x180 hI fr fl15 (by omega) (by omega) (by omega) trivial (by omega) (by omega))
            · refine R_aload_n (k := 0) rfl rfl rfl ?_
              refine R_getf_r (j := 2) rfl ft_2_18 sh_70 rfl ?_
              refine R_iload (k := 4) rfl rfl ?_
              refine R_lald rfl sh_73 ⟨by omega, by omega⟩ ?_
              refine N_anyL (fun w182 => ?_)
              refine R_iload_n (k := 1) rfl rfl rfl ?_
              refine R_callS (As := [.inr (.inl w182), .inl a0]) (rest := []) rfl mt_2_i69 (by decide) pp_X8_hasBit (by decide) rfl rfl (Nat.le_of_ble_eq_true rfl) (Nat.le_of_ble_eq_true rfl) ((k_X8_hasBit h14 hI w182 a0).mono (fun r183 h184 p185 => ?_))
              obtain ⟨rfl, x186, rfl, q187 | q187⟩ := p185
              · show RUN d_X2_step 61 [(4, .inl x17), (3, .inl x16), (0, .inr (.inr (.inl 70))), (1, .inl a0), (2, .inl a1)] [.inl x186] h14 _
                refine N_if_eq (a := x186.toInt) 67 rfl rfl rfl (fun c188 => ?_) (fun c188 => ?_)
                · refine R_aload_n (k := 0) rfl rfl rfl ?_
                  refine R_getf_r (j := 3) rfl ft_2_22 sh_70 rfl ?_
                  refine R_iload (k := 4) rfl rfl ?_
                  refine R_iald rfl sh_74 ⟨by omega, by omega⟩ ?_
                  refine N_any (fun x189 => ?_)
                  refine R_aload_n (k := 0) rfl rfl rfl ?_
                  refine R_getf_r (j := 0) rfl ft_2_9 sh_70 rfl ?_
                  refine R_iload (k := 4) rfl rfl ?_
                  refine R_iald rfl sh_71 ⟨by omega, by omega⟩ ?_
                  refine N_any (fun x190 => ?_)
                  refine N_icmp_ge (a := x189.toInt) (b := x190.toInt) 98 rfl rfl rfl rfl (fun c191 => ?_) (fun c191 => ?_)
                  · refine R_iload_n (k := 2) rfl rfl rfl ?_
                    refine N_if_ne (a := a1.toInt) 125 rfl rfl rfl (fun c192 => ?_) (fun c192 => ?_)
                    · refine N_iinc (a := x17.toInt) (c := (-1)) (fun w => [(4, .inl w), (3, .inl x16), (0, .inr (.inr (.inl 70))), (1, .inl a0), (2, .inl a1)]) rfl rfl (fun _ => rfl) (by decide) rfl (by decide) (by omega) (fun x193 q194 => ?_)
                      refine R_goto 35 rfl rfl ?_
                      exact RUN_weak (psub_cons rfl (psub_cons rfl (psub_cons rfl (psub_cons rfl (psub_cons rfl (psub_nil _)))))) (ih18 h14 x16 x193 hI fr fl15 (by omega) (by omega) (by omega) trivial (by omega) (by omega))
                    · refine R_aload_n (k := 0) rfl rfl rfl ?_
                      refine R_iload (k := 4) rfl rfl ?_
                      refine R_iload_n (k := 1) rfl rfl rfl ?_
                      refine R_callV (v := .inr (.inr (.inl 70))) (As := [.inl x17, .inl a0]) (rest := []) rfl mt_2_i80 pp_X2_nextIsFree (by decide) rfl rfl rfl (Nat.le_of_ble_eq_true rfl) (Nat.le_of_ble_eq_true rfl) ((k_X2_nextIsFree h14 hI x17 a0 (by omega) (by omega)).mono (fun r195 h196 p197 => ?_))
                      obtain ⟨rfl, x198, rfl, q199 | q199 | q199⟩ := p197
                      · show RUN d_X2_step 109 [(4, .inl x17), (3, .inl x16), (0, .inr (.inr (.inl 70))), (1, .inl a0), (2, .inl a1)] [.inl x198] h14 _
                        refine N_if_eq (a := x198.toInt) 125 rfl rfl rfl (fun c200 => ?_) (fun c200 => ?_)
                        · exfalso; omega
                        · refine R_aload_n (k := 0) rfl rfl rfl ?_
                          refine R_iload (k := 4) rfl rfl ?_
                          refine R_callV (v := .inr (.inr (.inl 70))) (As := [.inl x17]) (rest := []) rfl mt_2_i84 pp_X2_passOn (by decide) rfl rfl rfl (Nat.le_of_ble_eq_true rfl) (Nat.le_of_ble_eq_true rfl) ((k_X2_passOn h14 hI x17 (by omega)).mono (fun r201 h202 p203 => ?_))
                          obtain ⟨hJ, fj, -, rfl⟩ := p203
                          have f204 := fj
                          have fr := fr.trans fj (by decide)
                          have hI := hJ
                          have fl15 : FR [70, 74] h h202 := fl15.trans fj (by decide)
                          have s205 : (h202.1 70 9).toInt = (h14.1 70 9).toInt := by rw [(f204 70 (by decide)).1]
                          have s206 : (h202.1 70 7).toInt = (h14.1 70 7).toInt := by rw [(f204 70 (by decide)).1]
                          have s207 : (h202.1 70 4).toInt = (h14.1 70 4).toInt := by rw [(f204 70 (by decide)).1]
                          show RUN d_X2_step 118 [(4, .inl x17), (3, .inl x16), (0, .inr (.inr (.inl 70))), (1, .inl a0), (2, .inl a1)] [] h202 _
                          refine R_iload_n (k := 3) rfl rfl rfl ?_
                          refine R_iconst 1 rfl rfl ?_
                          refine R_iload (k := 4) rfl rfl ?_
                          refine N_ishl1 (b := x17.toInt) rfl rfl (by omega) (fun x208 q209 => ?_)
                          refine R_ior rfl ?_
                          refine N_any (fun x210 => ?_)
                          refine R_istore_n (k := 3) rfl [(3, .inl x210), (4, .inl x17), (0, .inr (.inr (.inl 70))), (1, .inl a0), (2, .inl a1)] rfl rfl (by decide) ?_
                          refine N_iinc (a := x17.toInt) (c := (-1)) (fun w => [(4, .inl w), (3, .inl x210), (0, .inr (.inr (.inl 70))), (1, .inl a0), (2, .inl a1)]) rfl rfl (fun _ => rfl) (by decide) rfl (by decide) (by omega) (fun x211 q212 => ?_)
                          refine R_goto 35 rfl rfl ?_
                          exact RUN_weak (psub_cons rfl (psub_cons rfl (psub_cons rfl (psub_cons rfl (psub_cons rfl (psub_nil _)))))) (ih18 h202 x210 x211 hI fr fl15 (by omega) (by omega) (by omega) trivial (by omega) (by omega))
                      · show RUN d_X2_step 109 [(4, .inl x17), (3, .inl x16), (0, .inr (.inr (.inl 70))), (1, .inl a0), (2, .inl a1)] [.inl x198] h14 _
                        refine N_if_eq (a := x198.toInt) 125 rfl rfl rfl (fun c213 => ?_) (fun c213 => ?_)
                        · refine N_iinc (a := x17.toInt) (c := (-1)) (fun w => [(4, .inl w), (3, .inl x16), (0, .inr (.inr (.inl 70))), (1, .inl a0), (2, .inl a1)]) rfl rfl (fun _ => rfl) (by decide) rfl (by decide) (by omega) (fun x214 q215 => ?_)
                          refine R_goto 35 rfl rfl ?_
                          exact RUN_weak (psub_cons rfl (psub_cons rfl (psub_cons rfl (psub_cons rfl (psub_cons rfl (psub_nil _)))))) (ih18 h14 x16 x214 hI fr fl15 (by omega) (by omega) (by omega) trivial (by omega) (by omega))
                        · exfalso; omega
                      · show RUN d_X2_step 109 [(4, .inl x17), (3, .inl x16), (0, .inr (.inr (.inl 70))), (1, .inl a0), (2, .inl a1)] [.inl x198] h14 _
                        refine N_if_eq (a := x198.toInt) 125 rfl rfl rfl (fun c216 => ?_) (fun c216 => ?_)
                        · exfalso; omega
                        · refine R_aload_n (k := 0) rfl rfl rfl ?_
                          refine R_iload (k := 4) rfl rfl ?_
                          refine R_callV (v := .inr (.inr (.inl 70))) (As := [.inl x17]) (rest := []) rfl mt_2_i84 pp_X2_passOn (by decide) rfl rfl rfl (Nat.le_of_ble_eq_true rfl) (Nat.le_of_ble_eq_true rfl) ((k_X2_passOn h14 hI x17 (by omega)).mono (fun r217 h218 p219 => ?_))
                          obtain ⟨hJ, fj, -, rfl⟩ := p219
                          have f220 := fj
                          have fr := fr.trans fj (by decide)
                          have hI := hJ
                          have fl15 : FR [70, 74] h h218 := fl15.trans fj (by decide)
                          have s221 : (h218.1 70 9).toInt = (h14.1 70 9).toInt := by rw [(f220 70 (by decide)).1]
                          have s222 : (h218.1 70 7).toInt = (h14.1 70 7).toInt := by rw [(f220 70 (by decide)).1]
                          have s223 : (h218.1 70 4).toInt = (h14.1 70 4).toInt := by rw [(f220 70 (by decide)).1]
                          show RUN d_X2_step 118 [(4, .inl x17), (3, .inl x16), (0, .inr (.inr (.inl 70))), (1, .inl a0), (2, .inl a1)] [] h218 _
                          refine R_iload_n (k := 3) rfl rfl rfl ?_
                          refine R_iconst 1 rfl rfl ?_
                          refine R_iload (k := 4) rfl rfl ?_
                          refine N_ishl1 (b := x17.toInt) rfl rfl (by omega) (fun x224 q225 => ?_)
                          refine R_ior rfl ?_
                          refine N_any (fun x226 => ?_)
                          refine R_istore_n (k := 3) rfl [(3, .inl x226), (4, .inl x17), (0, .inr (.inr (.inl 70))), (1, .inl a0), (2, .inl a1)] rfl rfl (by decide) ?_
                          refine N_iinc (a := x17.toInt) (c := (-1)) (fun w => [(4, .inl w), (3, .inl x226), (0, .inr (.inr (.inl 70))), (1, .inl a0), (2, .inl a1)]) rfl rfl (fun _ => rfl) (by decide) rfl (by decide) (by omega) (fun x227 q228 => ?_)
                          refine R_goto 35 rfl rfl ?_
                          exact RUN_weak (psub_cons rfl (psub_cons rfl (psub_cons rfl (psub_cons rfl (psub_cons rfl (psub_nil _)))))) (ih18 h218 x226 x227 hI fr fl15 (by omega) (by omega) (by omega) trivial (by omega) (by omega))
                  · refine R_aload_n (k := 0) rfl rfl rfl ?_
                    refine R_getf_r (j := 3) rfl ft_2_22 sh_70 rfl ?_
                    refine R_iload (k := 4) rfl rfl ?_
                    refine R_dup2 rfl ?_
                    refine R_iald rfl sh_74 ⟨by omega, by omega⟩ ?_
                    refine N_any (fun x229 => ?_)
                    refine R_iconst 1 rfl rfl ?_
                    have b230 := i_rng x229
                    refine R_iadd rfl ?_
                    refine N_any (fun x231 => ?_)
                    refine K_iast (a := x17.toInt) (lo := (-2147483648)) (hi' := 2147483647) rfl sh_74 rfl ⟨by omega, by omega⟩ hI (by decide) rfl (i_rng _) fr (by decide) (fun h232 g233 hI fr => ?_)
                    have fl15 : FR [70, 74] h h232 := by rw [g233]; exact FR_wI _ _ fl15 (by decide)
                    have s234 : (h232.1 70 9).toInt = (h14.1 70 9).toInt := by rw [g233, wI_ne _ _ _ (by decide)]
                    have s235 : (h232.1 70 7).toInt = (h14.1 70 7).toInt := by rw [g233, wI_ne _ _ _ (by decide)]
                    have s236 : (h232.1 70 4).toInt = (h14.1 70 4).toInt := by rw [g233, wI_ne _ _ _ (by decide)]
                    refine R_goto 125 rfl rfl ?_
                    refine N_iinc (a := x17.toInt) (c := (-1)) (fun w => [(4, .inl w), (3, .inl x16), (0, .inr (.inr (.inl 70))), (1, .inl a0), (2, .inl a1)]) rfl rfl (fun _ => rfl) (by decide) rfl (by decide) (by omega) (fun x237 q238 => ?_)
                    refine R_goto 35 rfl rfl ?_
                    exact RUN_weak (psub_cons rfl (psub_cons rfl (psub_cons rfl (psub_cons rfl (psub_cons rfl (psub_nil _)))))) (ih18 h232 x16 x237 hI fr fl15 (by omega) (by omega) (by omega) trivial (by omega) (by omega))
                · exfalso; omega
              · show RUN d_X2_step 61 [(4, .inl x17), (3, .inl x16), (0, .inr (.inr (.inl 70))), (1, .inl a0), (2, .inl a1)] [.inl x186] h14 _
                refine N_if_eq (a := x186.toInt) 67 rfl rfl rfl (fun c239 => ?_) (fun c239 => ?_)
                · exfalso; omega
                · refine R_goto 125 rfl rfl ?_
                  refine N_iinc (a := x17.toInt) (c := (-1)) (fun w => [(4, .inl w), (3, .inl x16), (0, .inr (.inr (.inl 70))), (1, .inl a0), (2, .inl a1)]) rfl rfl (fun _ => rfl) (by decide) rfl (by decide) (by omega) (fun x240 q241 => ?_)
                  refine R_goto 35 rfl rfl ?_
                  exact RUN_weak (psub_cons rfl (psub_cons rfl (psub_cons rfl (psub_cons rfl (psub_cons rfl (psub_nil _)))))) (ih18 h14 x16 x240 hI fr fl15 (by omega) (by omega) (by omega) trivial (by omega) (by omega))
      have k242 : (0 : Int32).toInt = 0 := by decide
      exact lp13 _ h (0 : Int32) x10 hI fr (FR.rf _ _) (by omega) rfl rfl trivial (by omega) (Nat.lt_succ_self _)
    · exfalso; omega
  · show RUN d_X2_step 12 [(0, .inr (.inr (.inl 70))), (1, .inl a0), (2, .inl a1)] [.inl x6] h _
    refine N_if_eq (a := x6.toInt) 25 rfl rfl rfl (fun c243 => ?_) (fun c243 => ?_)
    · exfalso; omega
    · refine R_aload_n (k := 0) rfl rfl rfl ?_
      refine R_dup_r rfl ?_
      refine R_getf_i (j := 8) rfl ft_2_38 sh_70 rfl ?_
      refine R_iconst 1 rfl rfl ?_
      have b244 := i_rng (h.1 70 8)
      refine R_iadd rfl ?_
      refine N_any (fun x245 => ?_)
      refine K_putf (j := 8) (lo := (-2147483648)) (hi' := 2147483647) rfl ft_2_38 sh_70 rfl hI (by decide) rfl (i_rng _) fr (by decide) (fun h246 g247 hI fr => ?_)
      have s248 : (h246.1 70 9).toInt = (h.1 70 9).toInt := by rw [g247, wI_at (by decide)]
      have s249 : (h246.1 70 7).toInt = (h.1 70 7).toInt := by rw [g247, wI_at (by decide)]
      have s250 : (h246.1 70 8).toInt = x245.toInt := by rw [g247, wI_is]
      refine R_iconst 0 rfl rfl ?_
      refine R_istore_n (k := 3) rfl [(3, .inl 0), (0, .inr (.inr (.inl 70))), (1, .inl a0), (2, .inl a1)] rfl rfl (by decide) ?_
      refine R_aload_n (k := 0) rfl rfl rfl ?_
      refine R_getf_i (j := 4) rfl ft_2_25 sh_70 rfl ?_
      have b251 : (0 : Int) ≤ (h246.1 70 4).toInt ∧ (h246.1 70 4).toInt ≤ 6 := hI.1 70 4
      refine R_iconst 1 rfl rfl ?_
      refine N_isub (a := (h246.1 70 4).toInt) (b := 1) rfl rfl (by decide) (by omega) (fun x252 q253 => ?_)
      refine R_istore (k := 4) [(4, .inl x252), (3, .inl 0), (0, .inr (.inr (.inl 70))), (1, .inl a0), (2, .inl a1)] rfl rfl (by decide) ?_
      have lp255 : ∀ (n254 : Nat) (h256 : PH) (x258 : Int32) (x259 : Int32), INV h256 → FR [70, 74] h h256 → FR [70, 74] h246 h256 → (-1) ≤ x259.toInt ∧ x259.toInt ≤ 5 → (h256.1 70 7).toInt = (h246.1 70 7).toInt → (h256.1 70 4).toInt = (h246.1 70 4).toInt → True → True → x259.toInt ≤ (h246.1 70 4).toInt + (-1) → (x259.toInt - (-1)).toNat < n254 → RUN d_X2_step 35 [(4, .inl x259), (3, .inl x258), (0, .inr (.inr (.inl 70))), (1, .inl a0), (2, .inl a1)] [] h256 (q_X2_step h a0 a1) := by
        intro n254
        induction n254 with
        | zero => intro h256 x258 x259 m261 m262 m263 m264 m265 m266 m267 m268 m269 hz; exact absurd hz (Nat.not_lt_zero _)
        | succ n254 ih260 =>
          intro h256 x258 x259 hI fr fl257 m264 m265 m266 m267 m268 m269 hz
          refine R_iload (k := 4) rfl rfl ?_
          refine N_if_lt (a := x259.toInt) 131 rfl rfl rfl (fun c270 => ?_) (fun c270 => ?_)
          · refine R_aload_n (k := 0) rfl rfl rfl ?_
            refine R_getf_i (j := 4) rfl ft_2_25 sh_70 rfl ?_
            refine N_if_le (a := (h256.1 70 4).toInt) 184 rfl rfl rfl (fun c271 => ?_) (fun c271 => ?_)
            · refine R_aload_n (k := 0) rfl rfl rfl ?_
              refine R_aload_n (k := 0) rfl rfl rfl ?_
              refine R_getf_i (j := 9) rfl ft_2_41 sh_70 rfl ?_
              refine R_iconst 1 rfl rfl ?_
              refine R_ishl rfl ?_
              refine N_any (fun x272 => ?_)
              refine R_iconst 2 rfl rfl ?_
              refine R_aload_n (k := 0) rfl rfl rfl ?_
              refine R_getf_i (j := 7) rfl ft_2_35 sh_70 rfl ?_
              refine R_ishl rfl ?_
              refine N_any (fun x273 => ?_)
              refine R_iconst 1 rfl rfl ?_
              have b274 := i_rng x273
              refine R_isub rfl ?_
              refine N_any (fun x275 => ?_)
              refine R_iand rfl ?_
              refine N_any (fun x276 => ?_)
              refine K_putf (j := 9) (lo := (-2147483648)) (hi' := 2147483647) rfl ft_2_41 sh_70 rfl hI (by decide) rfl (i_rng _) fr (by decide) (fun h277 g278 hI fr => ?_)
              have fl257 : FR [70, 74] h246 h277 := by rw [g278]; exact FR_wI _ _ fl257 (by decide)
              have s279 : (h277.1 70 7).toInt = (h256.1 70 7).toInt := by rw [g278, wI_at (by decide)]
              have s280 : (h277.1 70 8).toInt = (h256.1 70 8).toInt := by rw [g278, wI_at (by decide)]
              have s281 : (h277.1 70 4).toInt = (h256.1 70 4).toInt := by rw [g278, wI_at (by decide)]
              have s282 : (h277.1 70 9).toInt = x276.toInt := by rw [g278, wI_is]
              refine R_aload_n (k := 0) rfl rfl rfl ?_
              refine R_iload_n (k := 3) rfl rfl rfl ?_
              refine R_callV (v := .inr (.inr (.inl 70))) (As := [.inl x258]) (rest := []) rfl mt_2_i77 pp_X2_isThrow (by decide) rfl rfl rfl (Nat.le_of_ble_eq_true rfl) (Nat.le_of_ble_eq_true rfl) ((k_X2_isThrow h277 hI x258).mono (fun r283 h284 p285 => ?_))
              obtain ⟨rfl, x286, rfl, q287 | q287 | q287⟩ := p285
              · show RUN d_X2_step 208 [(4, .inl x259), (3, .inl x258), (0, .inr (.inr (.inl 70))), (1, .inl a0), (2, .inl a1)] [.inl x286] h277 _
                refine N_if_eq (a := x286.toInt) 221 rfl rfl rfl (fun c288 => ?_) (fun c288 => ?_)
                · refine R_iload_n (k := 3) rfl rfl rfl ?_
                  exact R_iret rfl rfl rfl ⟨hI, fr, trivial, _, rfl, trivial⟩
                · exfalso; omega
              · exfalso; omega
              · exfalso; omega
            · refine R_aload_n (k := 0) rfl rfl rfl ?_
              refine R_getf_i (j := 8) rfl ft_2_38 sh_70 rfl ?_
              refine N_if_le (a := (h256.1 70 8).toInt) 184 rfl rfl rfl (fun c289 => ?_) (fun c289 => ?_)
              · refine R_aload_n (k := 0) rfl rfl rfl ?_
                refine R_aload_n (k := 0) rfl rfl rfl ?_
                refine R_getf_i (j := 9) rfl ft_2_41 sh_70 rfl ?_
                refine R_iconst 1 rfl rfl ?_
                refine R_ishl rfl ?_
                refine N_any (fun x290 => ?_)
                refine R_iconst 2 rfl rfl ?_
                refine R_aload_n (k := 0) rfl rfl rfl ?_
                refine R_getf_i (j := 7) rfl ft_2_35 sh_70 rfl ?_
                refine R_ishl rfl ?_
                refine N_any (fun x291 => ?_)
                refine R_iconst 1 rfl rfl ?_
                have b292 := i_rng x291
                refine R_isub rfl ?_
                refine N_any (fun x293 => ?_)
                refine R_iand rfl ?_
                refine N_any (fun x294 => ?_)
                refine K_putf (j := 9) (lo := (-2147483648)) (hi' := 2147483647) rfl ft_2_41 sh_70 rfl hI (by decide) rfl (i_rng _) fr (by decide) (fun h295 g296 hI fr => ?_)
                have fl257 : FR [70, 74] h246 h295 := by rw [g296]; exact FR_wI _ _ fl257 (by decide)
                have s297 : (h295.1 70 7).toInt = (h256.1 70 7).toInt := by rw [g296, wI_at (by decide)]
                have s298 : (h295.1 70 8).toInt = (h256.1 70 8).toInt := by rw [g296, wI_at (by decide)]
                have s299 : (h295.1 70 4).toInt = (h256.1 70 4).toInt := by rw [g296, wI_at (by decide)]
                have s300 : (h295.1 70 9).toInt = x294.toInt := by rw [g296, wI_is]
                refine R_aload_n (k := 0) rfl rfl rfl ?_
                refine R_iload_n (k := 3) rfl rfl rfl ?_
                refine R_callV (v := .inr (.inr (.inl 70))) (As := [.inl x258]) (rest := []) rfl mt_2_i77 pp_X2_isThrow (by decide) rfl rfl rfl (Nat.le_of_ble_eq_true rfl) (Nat.le_of_ble_eq_true rfl) ((k_X2_isThrow h295 hI x258).mono (fun r301 h302 p303 => ?_))
                obtain ⟨rfl, x304, rfl, q305 | q305 | q305⟩ := p303
                · exfalso; omega
                · show RUN d_X2_step 208 [(4, .inl x259), (3, .inl x258), (0, .inr (.inr (.inl 70))), (1, .inl a0), (2, .inl a1)] [.inl x304] h295 _
                  refine N_if_eq (a := x304.toInt) 221 rfl rfl rfl (fun c306 => ?_) (fun c306 => ?_)
                  · refine R_iload_n (k := 3) rfl rfl rfl ?_
                    exact R_iret rfl rfl rfl ⟨hI, fr, trivial, _, rfl, trivial⟩
                  · exfalso; omega
                · show RUN d_X2_step 208 [(4, .inl x259), (3, .inl x258), (0, .inr (.inr (.inl 70))), (1, .inl a0), (2, .inl a1)] [.inl x304] h295 _
                  refine N_if_eq (a := x304.toInt) 221 rfl rfl rfl (fun c307 => ?_) (fun c307 => ?_)
                  · exfalso; omega
                  · refine R_aload_n (k := 0) rfl rfl rfl ?_
                    refine R_dup_r rfl ?_
                    refine R_getf_i (j := 9) rfl ft_2_41 sh_70 rfl ?_
                    refine R_iconst 1 rfl rfl ?_
                    refine R_ior rfl ?_
                    refine N_any (fun x308 => ?_)
                    refine K_putf (j := 9) (lo := (-2147483648)) (hi' := 2147483647) rfl ft_2_41 sh_70 rfl hI (by decide) rfl (i_rng _) fr (by decide) (fun h309 g310 hI fr => ?_)
                    have fl257 : FR [70, 74] h246 h309 := by rw [g310]; exact FR_wI _ _ fl257 (by decide)
                    have s311 : (h309.1 70 7).toInt = (h295.1 70 7).toInt := by rw [g310, wI_at (by decide)]
                    have s312 : (h309.1 70 8).toInt = (h295.1 70 8).toInt := by rw [g310, wI_at (by decide)]
                    have s313 : (h309.1 70 4).toInt = (h295.1 70 4).toInt := by rw [g310, wI_at (by decide)]
                    have s314 : (h309.1 70 9).toInt = x308.toInt := by rw [g310, wI_is]
                    refine R_iload_n (k := 3) rfl rfl rfl ?_
                    exact R_iret rfl rfl rfl ⟨hI, fr, trivial, _, rfl, trivial⟩
              · refine R_aload_n (k := 0) rfl rfl rfl ?_
                refine R_getf_r (j := 3) rfl ft_2_22 sh_70 rfl ?_
                refine R_iconst 0 rfl rfl ?_
                refine R_iald rfl sh_74 (by decide) ?_
                show RUN d_X2_step 151 [(4, .inl x259), (3, .inl x258), (0, .inr (.inr (.inl 70))), (1, .inl a0), (2, .inl a1)] [.inl (h256.1 74 0)] h256 _
                refine N_if_ne (a := (h256.1 74 0).toInt) 184 rfl rfl rfl (fun c315 => ?_) (fun c315 => ?_)
                · refine R_aload_n (k := 0) rfl rfl rfl ?_
                  refine R_aload_n (k := 0) rfl rfl rfl ?_
                  refine R_getf_i (j := 9) rfl ft_2_41 sh_70 rfl ?_
                  refine R_iconst 1 rfl rfl ?_
                  refine R_ishl rfl ?_
                  refine N_any (fun x316 => ?_)
                  refine R_iconst 2 rfl rfl ?_
                  refine R_aload_n (k := 0) rfl rfl rfl ?_
                  refine R_getf_i (j := 7) rfl ft_2_35 sh_70 rfl ?_
                  refine R_ishl rfl ?_
                  refine N_any (fun x317 => ?_)
                  refine R_iconst 1 rfl rfl ?_
                  have b318 := i_rng x317
                  refine R_isub rfl ?_
                  refine N_any (fun x319 => ?_)
                  refine R_iand rfl ?_
                  refine N_any (fun x320 => ?_)
                  refine K_putf (j := 9) (lo := (-2147483648)) (hi' := 2147483647) rfl ft_2_41 sh_70 rfl hI (by decide) rfl (i_rng _) fr (by decide) (fun h321 g322 hI fr => ?_)
                  have fl257 : FR [70, 74] h246 h321 := by rw [g322]; exact FR_wI _ _ fl257 (by decide)
                  have s323 : (h321.1 70 7).toInt = (h256.1 70 7).toInt := by rw [g322, wI_at (by decide)]
                  have s324 : (h321.1 70 8).toInt = (h256.1 70 8).toInt := by rw [g322, wI_at (by decide)]
                  have s325 : (h321.1 70 4).toInt = (h256.1 70 4).toInt := by rw [g322, wI_at (by decide)]
                  have s326 : (h321.1 74 0).toInt = (h256.1 74 0).toInt := by rw [g322, wI_ne _ _ _ (by decide)]
                  have s327 : (h321.1 70 9).toInt = x320.toInt := by rw [g322, wI_is]
                  refine R_aload_n (k := 0) rfl rfl rfl ?_
                  refine R_iload_n (k := 3) rfl rfl rfl ?_
                  refine R_callV (v := .inr (.inr (.inl 70))) (As := [.inl x258]) (rest := []) rfl mt_2_i77 pp_X2_isThrow (by decide) rfl rfl rfl (Nat.le_of_ble_eq_true rfl) (Nat.le_of_ble_eq_true rfl) ((k_X2_isThrow h321 hI x258).mono (fun r328 h329 p330 => ?_))
                  obtain ⟨rfl, x331, rfl, q332 | q332 | q332⟩ := p330
                  · exfalso; omega
                  · show RUN d_X2_step 208 [(4, .inl x259), (3, .inl x258), (0, .inr (.inr (.inl 70))), (1, .inl a0), (2, .inl a1)] [.inl x331] h321 _
                    refine N_if_eq (a := x331.toInt) 221 rfl rfl rfl (fun c333 => ?_) (fun c333 => ?_)
                    · refine R_iload_n (k := 3) rfl rfl rfl ?_
                      exact R_iret rfl rfl rfl ⟨hI, fr, trivial, _, rfl, trivial⟩
                    · exfalso; omega
                  · show RUN d_X2_step 208 [(4, .inl x259), (3, .inl x258), (0, .inr (.inr (.inl 70))), (1, .inl a0), (2, .inl a1)] [.inl x331] h321 _
                    refine N_if_eq (a := x331.toInt) 221 rfl rfl rfl (fun c334 => ?_) (fun c334 => ?_)
                    · exfalso; omega
                    · refine R_aload_n (k := 0) rfl rfl rfl ?_
                      refine R_dup_r rfl ?_
                      refine R_getf_i (j := 9) rfl ft_2_41 sh_70 rfl ?_
                      refine R_iconst 1 rfl rfl ?_
                      refine R_ior rfl ?_
                      refine N_any (fun x335 => ?_)
                      refine K_putf (j := 9) (lo := (-2147483648)) (hi' := 2147483647) rfl ft_2_41 sh_70 rfl hI (by decide) rfl (i_rng _) fr (by decide) (fun h336 g337 hI fr => ?_)
                      have fl257 : FR [70, 74] h246 h336 := by rw [g337]; exact FR_wI _ _ fl257 (by decide)
                      have s338 : (h336.1 70 7).toInt = (h321.1 70 7).toInt := by rw [g337, wI_at (by decide)]
                      have s339 : (h336.1 70 8).toInt = (h321.1 70 8).toInt := by rw [g337, wI_at (by decide)]
                      have s340 : (h336.1 70 4).toInt = (h321.1 70 4).toInt := by rw [g337, wI_at (by decide)]
                      have s341 : (h336.1 74 0).toInt = (h321.1 74 0).toInt := by rw [g337, wI_ne _ _ _ (by decide)]
                      have s342 : (h336.1 70 9).toInt = x335.toInt := by rw [g337, wI_is]
                      refine R_iload_n (k := 3) rfl rfl rfl ?_
                      exact R_iret rfl rfl rfl ⟨hI, fr, trivial, _, rfl, trivial⟩
                · refine R_aload_n (k := 0) rfl rfl rfl ?_
                  refine R_getf_r (j := 2) rfl ft_2_18 sh_70 rfl ?_
                  refine R_iconst 0 rfl rfl ?_
                  refine R_lald rfl sh_73 (by decide) ?_
                  refine N_anyL (fun w343 => ?_)
                  refine R_iload_n (k := 1) rfl rfl rfl ?_
                  refine R_callS (As := [.inr (.inl w343), .inl a0]) (rest := []) rfl mt_2_i69 (by decide) pp_X8_hasBit (by decide) rfl rfl (Nat.le_of_ble_eq_true rfl) (Nat.le_of_ble_eq_true rfl) ((k_X8_hasBit h256 hI w343 a0).mono (fun r344 h345 p346 => ?_))
                  obtain ⟨rfl, x347, rfl, q348 | q348⟩ := p346
                  · show RUN d_X2_step 164 [(4, .inl x259), (3, .inl x258), (0, .inr (.inr (.inl 70))), (1, .inl a0), (2, .inl a1)] [.inl x347] h256 _
                    refine N_if_ne (a := x347.toInt) 184 rfl rfl rfl (fun c349 => ?_) (fun c349 => ?_)
                    · exfalso; omega
                    · refine R_aload_n (k := 0) rfl rfl rfl ?_
                      refine R_dup_r rfl ?_
                      refine R_getf_i (j := 8) rfl ft_2_38 sh_70 rfl ?_
                      refine R_iconst 1 rfl rfl ?_
                      have b350 := i_rng (h256.1 70 8)
                      refine N_isub (a := (h256.1 70 8).toInt) (b := 1) rfl rfl (by decide) (by omega) (fun x351 q352 => ?_)
                      refine K_putf (j := 8) (lo := (-2147483648)) (hi' := 2147483647) rfl ft_2_38 sh_70 rfl hI (by decide) rfl (i_rng _) fr (by decide) (fun h353 g354 hI fr => ?_)
                      have fl257 : FR [70, 74] h246 h353 := by rw [g354]; exact FR_wI _ _ fl257 (by decide)
                      have s355 : (h353.1 70 9).toInt = (h256.1 70 9).toInt := by rw [g354, wI_at (by decide)]
                      have s356 : (h353.1 70 7).toInt = (h256.1 70 7).toInt := by rw [g354, wI_at (by decide)]
                      have s357 : (h353.1 70 4).toInt = (h256.1 70 4).toInt := by rw [g354, wI_at (by decide)]
                      have s358 : (h353.1 74 0).toInt = (h256.1 74 0).toInt := by rw [g354, wI_ne _ _ _ (by decide)]
                      have s359 : (h353.1 70 8).toInt = x351.toInt := by rw [g354, wI_is]
                      refine R_aload_n (k := 0) rfl rfl rfl ?_
                      refine R_getf_r (j := 3) rfl ft_2_22 sh_70 rfl ?_
                      refine R_iconst 0 rfl rfl ?_
                      refine R_iconst 1 rfl rfl ?_
                      refine K_iast (a := 0) (lo := (-2147483648)) (hi' := 2147483647) rfl sh_74 (by decide) (by decide) hI (by decide) rfl (by decide) fr (by decide) (fun h360 g361 hI fr => ?_)
                      have fl257 : FR [70, 74] h246 h360 := by rw [g361]; exact FR_wI _ _ fl257 (by decide)
                      have s362 : (h360.1 70 9).toInt = (h353.1 70 9).toInt := by rw [g361, wI_ne _ _ _ (by decide)]
                      have s363 : (h360.1 70 7).toInt = (h353.1 70 7).toInt := by rw [g361, wI_ne _ _ _ (by decide)]
                      have s364 : (h360.1 70 4).toInt = (h353.1 70 4).toInt := by rw [g361, wI_ne _ _ _ (by decide)]
                      have s365 : (h360.1 70 8).toInt = (h353.1 70 8).toInt := by rw [g361, wI_ne _ _ _ (by decide)]
                      have s366 : (h360.1 74 0).toInt = 1 := by rw [g361, show (0 : Int32).toNatClampNeg = 0 from rfl, wI_is]; rfl
                      refine R_aload_n (k := 0) rfl rfl rfl ?_
                      refine R_aload_n (k := 0) rfl rfl rfl ?_
                      refine R_getf_i (j := 9) rfl ft_2_41 sh_70 rfl ?_
                      refine R_iconst 1 rfl rfl ?_
                      refine R_ishl rfl ?_
                      refine N_any (fun x367 => ?_)
                      refine R_iconst 2 rfl rfl ?_
                      refine R_aload_n (k := 0) rfl rfl rfl ?_
                      refine R_getf_i (j := 7) rfl ft_2_35 sh_70 rfl ?_
                      refine R_ishl rfl ?_
                      refine N_any (fun x368 => ?_)
                      refine R_iconst 1 rfl rfl ?_
                      have b369 := i_rng x368
                      refine R_isub rfl ?_
                      refine N_any (fun x370 => ?_)
                      refine R_iand rfl ?_
                      refine N_any (fun x371 => ?_)
                      refine K_putf (j := 9) (lo := (-2147483648)) (hi' := 2147483647) rfl ft_2_41 sh_70 rfl hI (by decide) rfl (i_rng _) fr (by decide) (fun h372 g373 hI fr => ?_)
                      have fl257 : FR [70, 74] h246 h372 := by rw [g373]; exact FR_wI _ _ fl257 (by decide)
                      have s374 : (h372.1 70 7).toInt = (h360.1 70 7).toInt := by rw [g373, wI_at (by decide)]
                      have s375 : (h372.1 70 4).toInt = (h360.1 70 4).toInt := by rw [g373, wI_at (by decide)]
                      have s376 : (h372.1 70 8).toInt = (h360.1 70 8).toInt := by rw [g373, wI_at (by decide)]
                      have s377 : (h372.1 74 0).toInt = (h360.1 74 0).toInt := by rw [g373, wI_ne _ _ _ (by decide)]
                      have s378 : (h372.1 70 9).toInt = x371.toInt := by rw [g373, wI_is]
                      refine R_aload_n (k := 0) rfl rfl rfl ?_
                      refine R_iload_n (k := 3) rfl rfl rfl ?_
                      refine R_callV (v := .inr (.inr (.inl 70))) (As := [.inl x258]) (rest := []) rfl mt_2_i77 pp_X2_isThrow (by decide) rfl rfl rfl (Nat.le_of_ble_eq_true rfl) (Nat.le_of_ble_eq_true rfl) ((k_X2_isThrow h372 hI x258).mono (fun r379 h380 p381 => ?_))
                      obtain ⟨rfl, x382, rfl, q383 | q383 | q383⟩ := p381
                      · exfalso; omega
                      · show RUN d_X2_step 208 [(4, .inl x259), (3, .inl x258), (0, .inr (.inr (.inl 70))), (1, .inl a0), (2, .inl a1)] [.inl x382] h372 _
                        refine N_if_eq (a := x382.toInt) 221 rfl rfl rfl (fun c384 => ?_) (fun c384 => ?_)
                        · refine R_iload_n (k := 3) rfl rfl rfl ?_
                          exact R_iret rfl rfl rfl ⟨hI, fr, trivial, _, rfl, trivial⟩
                        · exfalso; omega
                      · show RUN d_X2_step 208 [(4, .inl x259), (3, .inl x258), (0, .inr (.inr (.inl 70))), (1, .inl a0), (2, .inl a1)] [.inl x382] h372 _
                        refine N_if_eq (a := x382.toInt) 221 rfl rfl rfl (fun c385 => ?_) (fun c385 => ?_)
                        · exfalso; omega
                        · refine R_aload_n (k := 0) rfl rfl rfl ?_
                          refine R_dup_r rfl ?_
                          refine R_getf_i (j := 9) rfl ft_2_41 sh_70 rfl ?_
                          refine R_iconst 1 rfl rfl ?_
                          refine R_ior rfl ?_
                          refine N_any (fun x386 => ?_)
                          refine K_putf (j := 9) (lo := (-2147483648)) (hi' := 2147483647) rfl ft_2_41 sh_70 rfl hI (by decide) rfl (i_rng _) fr (by decide) (fun h387 g388 hI fr => ?_)
                          have fl257 : FR [70, 74] h246 h387 := by rw [g388]; exact FR_wI _ _ fl257 (by decide)
                          have s389 : (h387.1 70 7).toInt = (h372.1 70 7).toInt := by rw [g388, wI_at (by decide)]
                          have s390 : (h387.1 70 4).toInt = (h372.1 70 4).toInt := by rw [g388, wI_at (by decide)]
                          have s391 : (h387.1 70 8).toInt = (h372.1 70 8).toInt := by rw [g388, wI_at (by decide)]
                          have s392 : (h387.1 74 0).toInt = (h372.1 74 0).toInt := by rw [g388, wI_ne _ _ _ (by decide)]
                          have s393 : (h387.1 70 9).toInt = x386.toInt := by rw [g388, wI_is]
                          refine R_iload_n (k := 3) rfl rfl rfl ?_
                          exact R_iret rfl rfl rfl ⟨hI, fr, trivial, _, rfl, trivial⟩
                  · show RUN d_X2_step 164 [(4, .inl x259), (3, .inl x258), (0, .inr (.inr (.inl 70))), (1, .inl a0), (2, .inl a1)] [.inl x347] h256 _
                    refine N_if_ne (a := x347.toInt) 184 rfl rfl rfl (fun c394 => ?_) (fun c394 => ?_)
                    · refine R_aload_n (k := 0) rfl rfl rfl ?_
                      refine R_aload_n (k := 0) rfl rfl rfl ?_
                      refine R_getf_i (j := 9) rfl ft_2_41 sh_70 rfl ?_
                      refine R_iconst 1 rfl rfl ?_
                      refine R_ishl rfl ?_
                      refine N_any (fun x395 => ?_)
                      refine R_iconst 2 rfl rfl ?_
                      refine R_aload_n (k := 0) rfl rfl rfl ?_
                      refine R_getf_i (j := 7) rfl ft_2_35 sh_70 rfl ?_
                      refine R_ishl rfl ?_
                      refine N_any (fun x396 => ?_)
                      refine R_iconst 1 rfl rfl ?_
                      have b397 := i_rng x396
                      refine R_isub rfl ?_
                      refine N_any (fun x398 => ?_)
                      refine R_iand rfl ?_
                      refine N_any (fun x399 => ?_)
                      refine K_putf (j := 9) (lo := (-2147483648)) (hi' := 2147483647) rfl ft_2_41 sh_70 rfl hI (by decide) rfl (i_rng _) fr (by decide) (fun h400 g401 hI fr => ?_)
                      have fl257 : FR [70, 74] h246 h400 := by rw [g401]; exact FR_wI _ _ fl257 (by decide)
                      have s402 : (h400.1 70 7).toInt = (h256.1 70 7).toInt := by rw [g401, wI_at (by decide)]
                      have s403 : (h400.1 70 8).toInt = (h256.1 70 8).toInt := by rw [g401, wI_at (by decide)]
                      have s404 : (h400.1 70 4).toInt = (h256.1 70 4).toInt := by rw [g401, wI_at (by decide)]
                      have s405 : (h400.1 74 0).toInt = (h256.1 74 0).toInt := by rw [g401, wI_ne _ _ _ (by decide)]
                      have s406 : (h400.1 70 9).toInt = x399.toInt := by rw [g401, wI_is]
                      refine R_aload_n (k := 0) rfl rfl rfl ?_
                      refine R_iload_n (k := 3) rfl rfl rfl ?_
                      refine R_callV (v := .inr (.inr (.inl 70))) (As := [.inl x258]) (rest := []) rfl mt_2_i77 pp_X2_isThrow (by decide) rfl rfl rfl (Nat.le_of_ble_eq_true rfl) (Nat.le_of_ble_eq_true rfl) ((k_X2_isThrow h400 hI x258).mono (fun r407 h408 p409 => ?_))
                      obtain ⟨rfl, x410, rfl, q411 | q411 | q411⟩ := p409
                      · exfalso; omega
                      · show RUN d_X2_step 208 [(4, .inl x259), (3, .inl x258), (0, .inr (.inr (.inl 70))), (1, .inl a0), (2, .inl a1)] [.inl x410] h400 _
                        refine N_if_eq (a := x410.toInt) 221 rfl rfl rfl (fun c412 => ?_) (fun c412 => ?_)
                        · refine R_iload_n (k := 3) rfl rfl rfl ?_
                          exact R_iret rfl rfl rfl ⟨hI, fr, trivial, _, rfl, trivial⟩
                        · exfalso; omega
                      · show RUN d_X2_step 208 [(4, .inl x259), (3, .inl x258), (0, .inr (.inr (.inl 70))), (1, .inl a0), (2, .inl a1)] [.inl x410] h400 _
                        refine N_if_eq (a := x410.toInt) 221 rfl rfl rfl (fun c413 => ?_) (fun c413 => ?_)
                        · exfalso; omega
                        · refine R_aload_n (k := 0) rfl rfl rfl ?_
                          refine R_dup_r rfl ?_
                          refine R_getf_i (j := 9) rfl ft_2_41 sh_70 rfl ?_
                          refine R_iconst 1 rfl rfl ?_
                          refine R_ior rfl ?_
                          refine N_any (fun x414 => ?_)
                          refine K_putf (j := 9) (lo := (-2147483648)) (hi' := 2147483647) rfl ft_2_41 sh_70 rfl hI (by decide) rfl (i_rng _) fr (by decide) (fun h415 g416 hI fr => ?_)
                          have fl257 : FR [70, 74] h246 h415 := by rw [g416]; exact FR_wI _ _ fl257 (by decide)
                          have s417 : (h415.1 70 7).toInt = (h400.1 70 7).toInt := by rw [g416, wI_at (by decide)]
                          have s418 : (h415.1 70 8).toInt = (h400.1 70 8).toInt := by rw [g416, wI_at (by decide)]
                          have s419 : (h415.1 70 4).toInt = (h400.1 70 4).toInt := by rw [g416, wI_at (by decide)]
                          have s420 : (h415.1 74 0).toInt = (h400.1 74 0).toInt := by rw [g416, wI_ne _ _ _ (by decide)]
                          have s421 : (h415.1 70 9).toInt = x414.toInt := by rw [g416, wI_is]
                          refine R_iload_n (k := 3) rfl rfl rfl ?_
                          exact R_iret rfl rfl rfl ⟨hI, fr, trivial, _, rfl, trivial⟩
                    · exfalso; omega
          · refine R_aload_n (k := 0) rfl rfl rfl ?_
            refine R_getf_r (j := 3) rfl ft_2_22 sh_70 rfl ?_
            refine R_iload (k := 4) rfl rfl ?_
            refine R_iald rfl sh_74 ⟨by omega, by omega⟩ ?_
            refine N_any (fun x422 => ?_)
            refine N_if_eq (a := x422.toInt) 125 rfl rfl rfl (fun c423 => ?_) (fun c423 => ?_)
            · refine N_iinc (a := x259.toInt) (c := (-1)) (fun w => [(4, .inl w), (3, .inl x258), (0, .inr (.inr (.inl 70))), (1, .inl a0), (2, .inl a1)]) rfl rfl (fun _ => rfl) (by decide) rfl (by decide) (by omega) (fun x424 q425 => ?_)
              refine R_goto 35 rfl rfl ?_
              exact RUN_weak (psub_cons rfl (psub_cons rfl (psub_cons rfl (psub_cons rfl (psub_cons rfl (psub_nil _)))))) (ih260 h256 x258 x424 hI fr fl257 (by omega) (by omega) (by omega) trivial trivial (by omega) (by omega))
            · refine R_aload_n (k := 0) rfl rfl rfl ?_
              refine R_getf_r (j := 2) rfl ft_2_18 sh_70 rfl ?_
              refine R_iload (k := 4) rfl rfl ?_
              refine R_lald rfl sh_73 ⟨by omega, by omega⟩ ?_
              refine N_anyL (fun w426 => ?_)
              refine R_iload_n (k := 1) rfl rfl rfl ?_
              refine R_callS (As := [.inr (.inl w426), .inl a0]) (rest := []) rfl mt_2_i69 (by decide) pp_X8_hasBit (by decide) rfl rfl (Nat.le_of_ble_eq_true rfl) (Nat.le_of_ble_eq_true rfl) ((k_X8_hasBit h256 hI w426 a0).mono (fun r427 h428 p429 => ?_))
              obtain ⟨rfl, x430, rfl, q431 | q431⟩ := p429
              · show RUN d_X2_step 61 [(4, .inl x259), (3, .inl x258), (0, .inr (.inr (.inl 70))), (1, .inl a0), (2, .inl a1)] [.inl x430] h256 _
                refine N_if_eq (a := x430.toInt) 67 rfl rfl rfl (fun c432 => ?_) (fun c432 => ?_)
                · refine R_aload_n (k := 0) rfl rfl rfl ?_
                  refine R_getf_r (j := 3) rfl ft_2_22 sh_70 rfl ?_
                  refine R_iload (k := 4) rfl rfl ?_
                  refine R_iald rfl sh_74 ⟨by omega, by omega⟩ ?_
                  refine N_any (fun x433 => ?_)
                  refine R_aload_n (k := 0) rfl rfl rfl ?_
                  refine R_getf_r (j := 0) rfl ft_2_9 sh_70 rfl ?_
                  refine R_iload (k := 4) rfl rfl ?_
                  refine R_iald rfl sh_71 ⟨by omega, by omega⟩ ?_
                  refine N_any (fun x434 => ?_)
                  refine N_icmp_ge (a := x433.toInt) (b := x434.toInt) 98 rfl rfl rfl rfl (fun c435 => ?_) (fun c435 => ?_)
                  · refine R_iload_n (k := 2) rfl rfl rfl ?_
                    refine N_if_ne (a := a1.toInt) 125 rfl rfl rfl (fun c436 => ?_) (fun c436 => ?_)
                    · refine N_iinc (a := x259.toInt) (c := (-1)) (fun w => [(4, .inl w), (3, .inl x258), (0, .inr (.inr (.inl 70))), (1, .inl a0), (2, .inl a1)]) rfl rfl (fun _ => rfl) (by decide) rfl (by decide) (by omega) (fun x437 q438 => ?_)
                      refine R_goto 35 rfl rfl ?_
                      exact RUN_weak (psub_cons rfl (psub_cons rfl (psub_cons rfl (psub_cons rfl (psub_cons rfl (psub_nil _)))))) (ih260 h256 x258 x437 hI fr fl257 (by omega) (by omega) (by omega) trivial trivial (by omega) (by omega))
                    · refine R_aload_n (k := 0) rfl rfl rfl ?_
                      refine R_iload (k := 4) rfl rfl ?_
                      refine R_iload_n (k := 1) rfl rfl rfl ?_
                      refine R_callV (v := .inr (.inr (.inl 70))) (As := [.inl x259, .inl a0]) (rest := []) rfl mt_2_i80 pp_X2_nextIsFree (by decide) rfl rfl rfl (Nat.le_of_ble_eq_true rfl) (Nat.le_of_ble_eq_true rfl) ((k_X2_nextIsFree h256 hI x259 a0 (by omega) (by omega)).mono (fun r439 h440 p441 => ?_))
                      obtain ⟨rfl, x442, rfl, q443 | q443 | q443⟩ := p441
                      · show RUN d_X2_step 109 [(4, .inl x259), (3, .inl x258), (0, .inr (.inr (.inl 70))), (1, .inl a0), (2, .inl a1)] [.inl x442] h256 _
                        refine N_if_eq (a := x442.toInt) 125 rfl rfl rfl (fun c444 => ?_) (fun c444 => ?_)
                        · exfalso; omega
                        · refine R_aload_n (k := 0) rfl rfl rfl ?_
                          refine R_iload (k := 4) rfl rfl ?_
                          refine R_callV (v := .inr (.inr (.inl 70))) (As := [.inl x259]) (rest := []) rfl mt_2_i84 pp_X2_passOn (by decide) rfl rfl rfl (Nat.le_of_ble_eq_true rfl) (Nat.le_of_ble_eq_true rfl) ((k_X2_passOn h256 hI x259 (by omega)).mono (fun r445 h446 p447 => ?_))
                          obtain ⟨hJ, fj, -, rfl⟩ := p447
                          have f448 := fj
                          have fr := fr.trans fj (by decide)
                          have hI := hJ
                          have fl257 : FR [70, 74] h246 h446 := fl257.trans fj (by decide)
                          have s449 : (h446.1 70 9).toInt = (h256.1 70 9).toInt := by rw [(f448 70 (by decide)).1]
                          have s450 : (h446.1 70 7).toInt = (h256.1 70 7).toInt := by rw [(f448 70 (by decide)).1]
                          have s451 : (h446.1 70 8).toInt = (h256.1 70 8).toInt := by rw [(f448 70 (by decide)).1]
                          have s452 : (h446.1 70 4).toInt = (h256.1 70 4).toInt := by rw [(f448 70 (by decide)).1]
                          show RUN d_X2_step 118 [(4, .inl x259), (3, .inl x258), (0, .inr (.inr (.inl 70))), (1, .inl a0), (2, .inl a1)] [] h446 _
                          refine R_iload_n (k := 3) rfl rfl rfl ?_
                          refine R_iconst 1 rfl rfl ?_
                          refine R_iload (k := 4) rfl rfl ?_
                          refine N_ishl1 (b := x259.toInt) rfl rfl (by omega) (fun x453 q454 => ?_)
                          refine R_ior rfl ?_
                          refine N_any (fun x455 => ?_)
                          refine R_istore_n (k := 3) rfl [(3, .inl x455), (4, .inl x259), (0, .inr (.inr (.inl 70))), (1, .inl a0), (2, .inl a1)] rfl rfl (by decide) ?_
                          refine N_iinc (a := x259.toInt) (c := (-1)) (fun w => [(4, .inl w), (3, .inl x455), (0, .inr (.inr (.inl 70))), (1, .inl a0), (2, .inl a1)]) rfl rfl (fun _ => rfl) (by decide) rfl (by decide) (by omega) (fun x456 q457 => ?_)
                          refine R_goto 35 rfl rfl ?_
                          exact RUN_weak (psub_cons rfl (psub_cons rfl (psub_cons rfl (psub_cons rfl (psub_cons rfl (psub_nil _)))))) (ih260 h446 x455 x456 hI fr fl257 (by omega) (by omega) (by omega) trivial trivial (by omega) (by omega))
                      · show RUN d_X2_step 109 [(4, .inl x259), (3, .inl x258), (0, .inr (.inr (.inl 70))), (1, .inl a0), (2, .inl a1)] [.inl x442] h256 _
                        refine N_if_eq (a := x442.toInt) 125 rfl rfl rfl (fun c458 => ?_) (fun c458 => ?_)
                        · refine N_iinc (a := x259.toInt) (c := (-1)) (fun w => [(4, .inl w), (3, .inl x258), (0, .inr (.inr (.inl 70))), (1, .inl a0), (2, .inl a1)]) rfl rfl (fun _ => rfl) (by decide) rfl (by decide) (by omega) (fun x459 q460 => ?_)
                          refine R_goto 35 rfl rfl ?_
                          exact RUN_weak (psub_cons rfl (psub_cons rfl (psub_cons rfl (psub_cons rfl (psub_cons rfl (psub_nil _)))))) (ih260 h256 x258 x459 hI fr fl257 (by omega) (by omega) (by omega) trivial trivial (by omega) (by omega))
                        · exfalso; omega
                      · show RUN d_X2_step 109 [(4, .inl x259), (3, .inl x258), (0, .inr (.inr (.inl 70))), (1, .inl a0), (2, .inl a1)] [.inl x442] h256 _
                        refine N_if_eq (a := x442.toInt) 125 rfl rfl rfl (fun c461 => ?_) (fun c461 => ?_)
                        · exfalso; omega
                        · refine R_aload_n (k := 0) rfl rfl rfl ?_
                          refine R_iload (k := 4) rfl rfl ?_
                          refine R_callV (v := .inr (.inr (.inl 70))) (As := [.inl x259]) (rest := []) rfl mt_2_i84 pp_X2_passOn (by decide) rfl rfl rfl (Nat.le_of_ble_eq_true rfl) (Nat.le_of_ble_eq_true rfl) ((k_X2_passOn h256 hI x259 (by omega)).mono (fun r462 h463 p464 => ?_))
                          obtain ⟨hJ, fj, -, rfl⟩ := p464
                          have f465 := fj
                          have fr := fr.trans fj (by decide)
                          have hI := hJ
                          have fl257 : FR [70, 74] h246 h463 := fl257.trans fj (by decide)
                          have s466 : (h463.1 70 9).toInt = (h256.1 70 9).toInt := by rw [(f465 70 (by decide)).1]
                          have s467 : (h463.1 70 7).toInt = (h256.1 70 7).toInt := by rw [(f465 70 (by decide)).1]
                          have s468 : (h463.1 70 8).toInt = (h256.1 70 8).toInt := by rw [(f465 70 (by decide)).1]
                          have s469 : (h463.1 70 4).toInt = (h256.1 70 4).toInt := by rw [(f465 70 (by decide)).1]
                          show RUN d_X2_step 118 [(4, .inl x259), (3, .inl x258), (0, .inr (.inr (.inl 70))), (1, .inl a0), (2, .inl a1)] [] h463 _
                          refine R_iload_n (k := 3) rfl rfl rfl ?_
                          refine R_iconst 1 rfl rfl ?_
                          refine R_iload (k := 4) rfl rfl ?_
                          refine N_ishl1 (b := x259.toInt) rfl rfl (by omega) (fun x470 q471 => ?_)
                          refine R_ior rfl ?_
                          refine N_any (fun x472 => ?_)
                          refine R_istore_n (k := 3) rfl [(3, .inl x472), (4, .inl x259), (0, .inr (.inr (.inl 70))), (1, .inl a0), (2, .inl a1)] rfl rfl (by decide) ?_
                          refine N_iinc (a := x259.toInt) (c := (-1)) (fun w => [(4, .inl w), (3, .inl x472), (0, .inr (.inr (.inl 70))), (1, .inl a0), (2, .inl a1)]) rfl rfl (fun _ => rfl) (by decide) rfl (by decide) (by omega) (fun x473 q474 => ?_)
                          refine R_goto 35 rfl rfl ?_
                          exact RUN_weak (psub_cons rfl (psub_cons rfl (psub_cons rfl (psub_cons rfl (psub_cons rfl (psub_nil _)))))) (ih260 h463 x472 x473 hI fr fl257 (by omega) (by omega) (by omega) trivial trivial (by omega) (by omega))
                  · refine R_aload_n (k := 0) rfl rfl rfl ?_
                    refine R_getf_r (j := 3) rfl ft_2_22 sh_70 rfl ?_
                    refine R_iload (k := 4) rfl rfl ?_
                    refine R_dup2 rfl ?_
                    refine R_iald rfl sh_74 ⟨by omega, by omega⟩ ?_
                    refine N_any (fun x475 => ?_)
                    refine R_iconst 1 rfl rfl ?_
                    have b476 := i_rng x475
                    refine R_iadd rfl ?_
                    refine N_any (fun x477 => ?_)
                    refine K_iast (a := x259.toInt) (lo := (-2147483648)) (hi' := 2147483647) rfl sh_74 rfl ⟨by omega, by omega⟩ hI (by decide) rfl (i_rng _) fr (by decide) (fun h478 g479 hI fr => ?_)
                    have fl257 : FR [70, 74] h246 h478 := by rw [g479]; exact FR_wI _ _ fl257 (by decide)
                    have s480 : (h478.1 70 9).toInt = (h256.1 70 9).toInt := by rw [g479, wI_ne _ _ _ (by decide)]
                    have s481 : (h478.1 70 7).toInt = (h256.1 70 7).toInt := by rw [g479, wI_ne _ _ _ (by decide)]
                    have s482 : (h478.1 70 8).toInt = (h256.1 70 8).toInt := by rw [g479, wI_ne _ _ _ (by decide)]
                    have s483 : (h478.1 70 4).toInt = (h256.1 70 4).toInt := by rw [g479, wI_ne _ _ _ (by decide)]
                    refine R_goto 125 rfl rfl ?_
                    refine N_iinc (a := x259.toInt) (c := (-1)) (fun w => [(4, .inl w), (3, .inl x258), (0, .inr (.inr (.inl 70))), (1, .inl a0), (2, .inl a1)]) rfl rfl (fun _ => rfl) (by decide) rfl (by decide) (by omega) (fun x484 q485 => ?_)
                    refine R_goto 35 rfl rfl ?_
                    exact RUN_weak (psub_cons rfl (psub_cons rfl (psub_cons rfl (psub_cons rfl (psub_cons rfl (psub_nil _)))))) (ih260 h478 x258 x484 hI fr fl257 (by omega) (by omega) (by omega) trivial trivial (by omega) (by omega))
                · exfalso; omega
              · show RUN d_X2_step 61 [(4, .inl x259), (3, .inl x258), (0, .inr (.inr (.inl 70))), (1, .inl a0), (2, .inl a1)] [.inl x430] h256 _
                refine N_if_eq (a := x430.toInt) 67 rfl rfl rfl (fun c486 => ?_) (fun c486 => ?_)
                · exfalso; omega
                · refine R_goto 125 rfl rfl ?_
                  refine N_iinc (a := x259.toInt) (c := (-1)) (fun w => [(4, .inl w), (3, .inl x258), (0, .inr (.inr (.inl 70))), (1, .inl a0), (2, .inl a1)]) rfl rfl (fun _ => rfl) (by decide) rfl (by decide) (by omega) (fun x487 q488 => ?_)
                  refine R_goto 35 rfl rfl ?_
                  exact RUN_weak (psub_cons rfl (psub_cons rfl (psub_cons rfl (psub_cons rfl (psub_cons rfl (psub_nil _)))))) (ih260 h256 x258 x487 hI fr fl257 (by omega) (by omega) (by omega) trivial trivial (by omega) (by omega))
      have k489 : (0 : Int32).toInt = 0 := by decide
      exact lp255 _ h246 (0 : Int32) x252 hI fr (FR.rf _ _) (by omega) rfl rfl trivial trivial (by omega) (Nat.lt_succ_self _)
