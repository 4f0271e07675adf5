abbrev q_X7_hasRoom (h : PH) (a0 : Int32) : Option PV → PH → Prop := fun r h' => h = h' ∧ ∃ z : Int32, r = some (.inl z) ∧ ((z.toInt = 0) ∨ (z.toInt = 1))
set_option maxHeartbeats 4000000 in
set_option maxRecDepth 100000 in
theorem k_X7_hasRoom (h : PH) (hI : INV h) (a0 : Int32) (h0a : 4 ≤ a0.toInt ∧ a0.toInt ≤ 20) : CALL d_X7_hasRoom [.inr (.inr (.inl 2)), .inl a0] h (q_X7_hasRoom h a0) := by
  show RUN d_X7_hasRoom 0 [(0, .inr (.inr (.inl 2))), (1, .inl a0)] [] h _
  refine R_aload_n (k := 0) rfl rfl rfl ?_
  refine R_getf_i (j := 1) rfl ft_7_15 sh_2 rfl ?_
  have b1 : (0 : Int) ≤ (h.1 2 1).toInt ∧ (h.1 2 1).toInt ≤ 500 := hI.1 2 1
  refine R_iload_n (k := 1) rfl rfl rfl ?_
  refine N_iadd (a := (h.1 2 1).toInt) (b := a0.toInt) rfl rfl rfl (by omega) (fun x2 q3 => ?_)
  refine R_sipush 500 rfl rfl ?_
  refine N_icmp_gt (a := x2.toInt) (b := 500) 16 rfl rfl rfl (by decide) (fun c4 => ?_) (fun c4 => ?_)
  · refine R_iconst 0 rfl rfl ?_
    exact R_iret rfl rfl rfl ⟨rfl, _, rfl, by rw [show (0 : Int32).toInt = 0 from rfl]; omega⟩
  · refine R_iconst 1 rfl rfl ?_
    refine R_goto 17 rfl rfl ?_
    exact R_iret rfl rfl rfl ⟨rfl, _, rfl, by rw [show (1 : Int32).toInt = 1 from rfl]; omega⟩
abbrev q_X8_end (h : PH) (a0 : Int32) : Option PV → PH → Prop := fun r h' => INV h' ∧ FR [2] h h' ∧ ∃ z : Int32, r = some (.inl z) ∧ (((-1) ≤ z.toInt ∧ z.toInt ≤ 500))
set_option maxHeartbeats 4000000 in
set_option maxRecDepth 100000 in
theorem k_X8_end (h : PH) (hI : INV h) (a0 : Int32) : CALL d_X8_end [.inr (.inr (.inl 0)), .inl a0] h (q_X8_end h a0) := by
  show RUN d_X8_end 0 [(0, .inr (.inr (.inl 0))), (1, .inl a0)] [] h _
  have b1 := i_rng a0
  have fr : FR [2] h h := FR.rf _ _
  refine R_iload_n (k := 1) rfl rfl rfl ?_
  refine N_if_lt (a := a0.toInt) 15 rfl rfl rfl (fun c2 => ?_) (fun c2 => ?_)
  · refine R_iconst (-1) rfl rfl ?_
    exact R_iret rfl rfl rfl ⟨hI, fr, _, rfl, by rw [show ((-1) : Int32).toInt = (-1) from rfl]; omega⟩
  · refine R_iload_n (k := 1) rfl rfl rfl ?_
    refine R_aload_n (k := 0) rfl rfl rfl ?_
    refine R_getf_r (j := 1) rfl ft_8_20 sh_0 rfl ?_
    refine R_getf_i (j := 1) rfl ft_8_94 sh_2 rfl ?_
    have b3 : (0 : Int) ≤ (h.1 2 1).toInt ∧ (h.1 2 1).toInt ≤ 500 := hI.1 2 1
    refine N_icmp_le (a := a0.toInt) (b := (h.1 2 1).toInt) 17 rfl rfl rfl rfl (fun c4 => ?_) (fun c4 => ?_)
    · refine R_aload_n (k := 0) rfl rfl rfl ?_
      refine R_getf_r (j := 1) rfl ft_8_20 sh_0 rfl ?_
      refine R_iload_n (k := 1) rfl rfl rfl ?_
      refine K_putf (j := 1) (lo := 0) (hi' := 500) rfl ft_8_94 sh_2 rfl hI (by decide) rfl (by omega) fr (by decide) (fun h5 g6 hI fr => ?_)
      have s7 : (h5.1 2 1).toInt = a0.toInt := by rw [g6, wI_is]
      refine R_iload_n (k := 1) rfl rfl rfl ?_
      exact R_iret rfl rfl rfl ⟨hI, fr, _, rfl, by omega⟩
    · refine R_iconst (-1) rfl rfl ?_
      exact R_iret rfl rfl rfl ⟨hI, fr, _, rfl, by rw [show ((-1) : Int32).toInt = (-1) from rfl]; omega⟩
abbrev q_X9_in (h : PH) (a0 : Int64) (a1 : Int64) (a2 : Int64) : Option PV → PH → Prop := fun r h' => h = h' ∧ ∃ z : Int32, r = some (.inl z) ∧ ((z.toInt = 0 ∧ a0.toInt ≤ a1.toInt + (-1)) ∨ (z.toInt = 0 ∧ a1.toInt ≤ a0.toInt + 0 ∧ a2.toInt ≤ a0.toInt + (-1)) ∨ (z.toInt = 1 ∧ a1.toInt ≤ a0.toInt + 0 ∧ a0.toInt ≤ a2.toInt + 0))
set_option maxHeartbeats 4000000 in
set_option maxRecDepth 100000 in
theorem k_X9_in (h : PH) (hI : INV h) (a0 : Int64) (a1 : Int64) (a2 : Int64) : CALL d_X9_in [.inr (.inl a0), .inr (.inl a1), .inr (.inl a2)] h (q_X9_in h a0 a1 a2) := by
  show RUN d_X9_in 0 [(0, .inr (.inl a0)), (2, .inr (.inl a1)), (4, .inr (.inl a2))] [] h _
  refine R_lload_n (k := 0) rfl rfl rfl ?_
  refine R_lload_n (k := 2) rfl rfl rfl ?_
  refine N_lcmp (a := a0.toInt) (b := a1.toInt) rfl rfl rfl (fun x1 q2 => ?_)
  refine N_if_lt (a := x1.toInt) 17 rfl rfl rfl (fun c3 => ?_) (fun c3 => ?_)
  · refine R_iconst 0 rfl rfl ?_
    exact R_iret rfl rfl rfl ⟨rfl, _, rfl, by rw [show (0 : Int32).toInt = 0 from rfl]; omega⟩
  · refine R_lload_n (k := 0) rfl rfl rfl ?_
    refine R_lload (k := 4) rfl rfl ?_
    refine N_lcmp (a := a0.toInt) (b := a2.toInt) rfl rfl rfl (fun x4 q5 => ?_)
    refine N_if_gt (a := x4.toInt) 17 rfl rfl rfl (fun c6 => ?_) (fun c6 => ?_)
    · refine R_iconst 0 rfl rfl ?_
      exact R_iret rfl rfl rfl ⟨rfl, _, rfl, by rw [show (0 : Int32).toInt = 0 from rfl]; omega⟩
    · refine R_iconst 1 rfl rfl ?_
      refine R_goto 18 rfl rfl ?_
      exact R_iret rfl rfl rfl ⟨rfl, _, rfl, by rw [show (1 : Int32).toInt = 1 from rfl]; omega⟩
abbrev q_X9_end (h : PH) (a0 : Int32) : Option PV → PH → Prop := fun r h' => INV h' ∧ FR [96] h h' ∧ ∃ z : Int32, r = some (.inl z) ∧ (((-1) ≤ z.toInt ∧ z.toInt ≤ 500))
set_option maxHeartbeats 4000000 in
set_option maxRecDepth 100000 in
theorem k_X9_end (h : PH) (hI : INV h) (a0 : Int32) : CALL d_X9_end [.inr (.inr (.inl 96)), .inl a0] h (q_X9_end h a0) := by
  show RUN d_X9_end 0 [(0, .inr (.inr (.inl 96))), (1, .inl a0)] [] h _
  have b1 := i_rng a0
  have fr : FR [96] h h := FR.rf _ _
  refine R_iload_n (k := 1) rfl rfl rfl ?_
  refine N_i2l rfl (fun w2 q3 => ?_)
  refine R_lconst 0 rfl rfl ?_
  refine R_aload_n (k := 0) rfl rfl rfl ?_
  refine R_getf_i (j := 5) rfl ft_9_136 sh_96 rfl ?_
  have b4 : (0 : Int) ≤ (h.1 96 5).toInt ∧ (h.1 96 5).toInt ≤ 500 := hI.1 96 5
  refine N_i2l rfl (fun w5 q6 => ?_)
  have k7 : (0 : Int64).toInt = 0 := by decide
  refine R_callS (As := [.inr (.inl w2), .inr (.inl 0), .inr (.inl w5)]) (rest := []) rfl mt_9_i125 (by decide) pp_X9_in (by decide) rfl rfl (Nat.le_of_ble_eq_true rfl) (Nat.le_of_ble_eq_true rfl) ((k_X9_in h hI w2 (0 : Int64) w5).mono (fun r8 h9 p10 => ?_))
  obtain ⟨rfl, x11, rfl, q12 | q12 | q12⟩ := p10
  · show RUN d_X9_end 11 [(0, .inr (.inr (.inl 96))), (1, .inl a0)] [.inl x11] h _
    refine N_if_ne (a := x11.toInt) 16 rfl rfl rfl (fun c13 => ?_) (fun c13 => ?_)
    · exfalso; omega
    · refine R_iconst (-1) rfl rfl ?_
      exact R_iret rfl rfl rfl ⟨hI, fr, _, rfl, by rw [show ((-1) : Int32).toInt = (-1) from rfl]; omega⟩
  · show RUN d_X9_end 11 [(0, .inr (.inr (.inl 96))), (1, .inl a0)] [.inl x11] h _
    refine N_if_ne (a := x11.toInt) 16 rfl rfl rfl (fun c14 => ?_) (fun c14 => ?_)
    · exfalso; omega
    · refine R_iconst (-1) rfl rfl ?_
      exact R_iret rfl rfl rfl ⟨hI, fr, _, rfl, by rw [show ((-1) : Int32).toInt = (-1) from rfl]; omega⟩
  · show RUN d_X9_end 11 [(0, .inr (.inr (.inl 96))), (1, .inl a0)] [.inl x11] h _
    refine N_if_ne (a := x11.toInt) 16 rfl rfl rfl (fun c15 => ?_) (fun c15 => ?_)
    · refine R_aload_n (k := 0) rfl rfl rfl ?_
      refine R_iload_n (k := 1) rfl rfl rfl ?_
      refine K_putf (j := 5) (lo := 0) (hi' := 500) rfl ft_9_136 sh_96 rfl hI (by decide) rfl (by omega) fr (by decide) (fun h16 g17 hI fr => ?_)
      have s18 : (h16.1 96 5).toInt = a0.toInt := by rw [g17, wI_is]
      refine R_iload_n (k := 1) rfl rfl rfl ?_
      exact R_iret rfl rfl rfl ⟨hI, fr, _, rfl, by omega⟩
    · exfalso; omega
abbrev q_X7_byteAt (h : PH) (a0 : Int32) : Option PV → PH → Prop := fun r h' => h = h' ∧ ∃ z : Int32, r = some (.inl z) ∧ ((True))
set_option maxHeartbeats 4000000 in
set_option maxRecDepth 100000 in
theorem k_X7_byteAt (h : PH) (hI : INV h) (a0 : Int32) (h0a : (-2147483648) ≤ a0.toInt ∧ a0.toInt ≤ 499) : CALL d_X7_byteAt [.inr (.inr (.inl 2)), .inl a0] h (q_X7_byteAt h a0) := by
  show RUN d_X7_byteAt 0 [(0, .inr (.inr (.inl 2))), (1, .inl a0)] [] h _
  refine R_iload_n (k := 1) rfl rfl rfl ?_
  refine N_if_lt (a := a0.toInt) 21 rfl rfl rfl (fun c1 => ?_) (fun c1 => ?_)
  · refine R_iconst (-1) rfl rfl ?_
    exact R_iret rfl rfl rfl ⟨rfl, _, rfl, trivial⟩
  · refine R_iload_n (k := 1) rfl rfl rfl ?_
    refine R_aload_n (k := 0) rfl rfl rfl ?_
    refine R_getf_i (j := 1) rfl ft_7_15 sh_2 rfl ?_
    have b2 : (0 : Int) ≤ (h.1 2 1).toInt ∧ (h.1 2 1).toInt ≤ 500 := hI.1 2 1
    refine N_icmp_ge (a := a0.toInt) (b := (h.1 2 1).toInt) 21 rfl rfl rfl rfl (fun c3 => ?_) (fun c3 => ?_)
    · refine R_iconst (-1) rfl rfl ?_
      exact R_iret rfl rfl rfl ⟨rfl, _, rfl, trivial⟩
    · refine R_aload_n (k := 0) rfl rfl rfl ?_
      refine R_getf_r (j := 0) rfl ft_7_9 sh_2 rfl ?_
      refine R_iload_n (k := 1) rfl rfl rfl ?_
      refine R_bald rfl sh_3 ⟨by omega, by omega⟩ ?_
      refine N_any (fun x4 => ?_)
      refine R_goto 22 rfl rfl ?_
      exact R_iret rfl rfl rfl ⟨rfl, _, rfl, trivial⟩
abbrev q_X4_kindOf (h : PH) (a0 : Int32) : Option PV → PH → Prop := fun r h' => h = h' ∧ ∃ z : Int32, r = some (.inl z) ∧ ((0 ≤ z.toInt ∧ z.toInt ≤ 4))
set_option maxHeartbeats 4000000 in
set_option maxRecDepth 100000 in
theorem k_X4_kindOf (h : PH) (hI : INV h) (a0 : Int32) : CALL d_X4_kindOf [.inl a0] h (q_X4_kindOf h a0) := by
  show RUN d_X4_kindOf 0 [(0, .inl a0)] [] h _
  have b1 := i_rng a0
  refine R_iload_n (k := 0) rfl rfl rfl ?_
  refine R_bipush 97 rfl rfl ?_
  refine N_icmp_lt (a := a0.toInt) (b := 97) 14 rfl rfl rfl (by decide) (fun c2 => ?_) (fun c2 => ?_)
  · refine R_iload_n (k := 0) rfl rfl rfl ?_
    refine R_bipush 48 rfl rfl ?_
    refine N_icmp_lt (a := a0.toInt) (b := 48) 28 rfl rfl rfl (by decide) (fun c3 => ?_) (fun c3 => ?_)
    · refine R_iload_n (k := 0) rfl rfl rfl ?_
      refine R_bipush 32 rfl rfl ?_
      refine N_icmp_eq (a := a0.toInt) (b := 32) 40 rfl rfl rfl (by decide) (fun c4 => ?_) (fun c4 => ?_)
      · refine R_iconst 4 rfl rfl ?_
        exact R_iret rfl rfl rfl ⟨rfl, _, rfl, by rw [show (4 : Int32).toInt = 4 from rfl]; omega⟩
      · refine R_iload_n (k := 0) rfl rfl rfl ?_
        refine R_bipush 10 rfl rfl ?_
        refine N_icmp_ne (a := a0.toInt) (b := 10) 42 rfl rfl rfl (by decide) (fun c5 => ?_) (fun c5 => ?_)
        · refine R_iload_n (k := 0) rfl rfl rfl ?_
          refine R_bipush 59 rfl rfl ?_
          refine N_icmp_ne (a := a0.toInt) (b := 59) 52 rfl rfl rfl (by decide) (fun c6 => ?_) (fun c6 => ?_)
          · refine R_iconst 3 rfl rfl ?_
            exact R_iret rfl rfl rfl ⟨rfl, _, rfl, by rw [show (3 : Int32).toInt = 3 from rfl]; omega⟩
          · exfalso; omega
        · refine R_iconst 4 rfl rfl ?_
          exact R_iret rfl rfl rfl ⟨rfl, _, rfl, by rw [show (4 : Int32).toInt = 4 from rfl]; omega⟩
    · refine R_iload_n (k := 0) rfl rfl rfl ?_
      refine R_bipush 57 rfl rfl ?_
      refine N_icmp_gt (a := a0.toInt) (b := 57) 28 rfl rfl rfl (by decide) (fun c7 => ?_) (fun c7 => ?_)
      · refine R_iload_n (k := 0) rfl rfl rfl ?_
        refine R_bipush 32 rfl rfl ?_
        refine N_icmp_eq (a := a0.toInt) (b := 32) 40 rfl rfl rfl (by decide) (fun c8 => ?_) (fun c8 => ?_)
        · exfalso; omega
        · refine R_iload_n (k := 0) rfl rfl rfl ?_
          refine R_bipush 10 rfl rfl ?_
          refine N_icmp_ne (a := a0.toInt) (b := 10) 42 rfl rfl rfl (by decide) (fun c9 => ?_) (fun c9 => ?_)
          · refine R_iload_n (k := 0) rfl rfl rfl ?_
            refine R_bipush 59 rfl rfl ?_
            refine N_icmp_ne (a := a0.toInt) (b := 59) 52 rfl rfl rfl (by decide) (fun c10 => ?_) (fun c10 => ?_)
            · refine R_iconst 3 rfl rfl ?_
              exact R_iret rfl rfl rfl ⟨rfl, _, rfl, by rw [show (3 : Int32).toInt = 3 from rfl]; omega⟩
            · refine R_iconst 2 rfl rfl ?_
              refine R_goto 53 rfl rfl ?_
              exact R_iret rfl rfl rfl ⟨rfl, _, rfl, by rw [show (2 : Int32).toInt = 2 from rfl]; omega⟩
          · exfalso; omega
      · refine R_iconst 1 rfl rfl ?_
        exact R_iret rfl rfl rfl ⟨rfl, _, rfl, by rw [show (1 : Int32).toInt = 1 from rfl]; omega⟩
  · refine R_iload_n (k := 0) rfl rfl rfl ?_
    refine R_bipush 122 rfl rfl ?_
    refine N_icmp_gt (a := a0.toInt) (b := 122) 14 rfl rfl rfl (by decide) (fun c11 => ?_) (fun c11 => ?_)
    · refine R_iload_n (k := 0) rfl rfl rfl ?_
      refine R_bipush 48 rfl rfl ?_
      refine N_icmp_lt (a := a0.toInt) (b := 48) 28 rfl rfl rfl (by decide) (fun c12 => ?_) (fun c12 => ?_)
      · exfalso; omega
      · refine R_iload_n (k := 0) rfl rfl rfl ?_
        refine R_bipush 57 rfl rfl ?_
        refine N_icmp_gt (a := a0.toInt) (b := 57) 28 rfl rfl rfl (by decide) (fun c13 => ?_) (fun c13 => ?_)
        · refine R_iload_n (k := 0) rfl rfl rfl ?_
          refine R_bipush 32 rfl rfl ?_
          refine N_icmp_eq (a := a0.toInt) (b := 32) 40 rfl rfl rfl (by decide) (fun c14 => ?_) (fun c14 => ?_)
          · exfalso; omega
          · refine R_iload_n (k := 0) rfl rfl rfl ?_
            refine R_bipush 10 rfl rfl ?_
            refine N_icmp_ne (a := a0.toInt) (b := 10) 42 rfl rfl rfl (by decide) (fun c15 => ?_) (fun c15 => ?_)
            · refine R_iload_n (k := 0) rfl rfl rfl ?_
              refine R_bipush 59 rfl rfl ?_
              refine N_icmp_ne (a := a0.toInt) (b := 59) 52 rfl rfl rfl (by decide) (fun c16 => ?_) (fun c16 => ?_)
              · refine R_iconst 3 rfl rfl ?_
                exact R_iret rfl rfl rfl ⟨rfl, _, rfl, by rw [show (3 : Int32).toInt = 3 from rfl]; omega⟩
              · exfalso; omega
            · exfalso; omega
        · exfalso; omega
    · refine R_iconst 0 rfl rfl ?_
      exact R_iret rfl rfl rfl ⟨rfl, _, rfl, by rw [show (0 : Int32).toInt = 0 from rfl]; omega⟩
abbrev q_X8_forget (h : PH)  : Option PV → PH → Prop := fun r h' => INV h' ∧ FR [0] h h' ∧ r = none
set_option maxHeartbeats 4000000 in
set_option maxRecDepth 100000 in
theorem k_X8_forget (h : PH) (hI : INV h)  : CALL d_X8_forget [.inr (.inr (.inl 0))] h (q_X8_forget h) := by
  show RUN d_X8_forget 0 [(0, .inr (.inr (.inl 0)))] [] h _
  have fr : FR [0] h h := FR.rf _ _
  refine R_aload_n (k := 0) rfl rfl rfl ?_
  refine R_iconst 0 rfl rfl ?_
  refine K_putz (j := 11) rfl ft_8_74 sh_0 rfl (by decide) hI (by decide) rfl fr (by decide) (fun h1 g2 hI fr => ?_)
  have s3 : (h1.1 0 11).toInt = 0 := by rw [g2, wI_is]; rfl
  refine R_aload_n (k := 0) rfl rfl rfl ?_
  refine R_iconst 0 rfl rfl ?_
  refine K_putz (j := 13) rfl ft_8_81 sh_0 rfl (by decide) hI (by decide) rfl fr (by decide) (fun h4 g5 hI fr => ?_)
  have s6 : (h4.1 0 11).toInt = (h1.1 0 11).toInt := by rw [g5, wI_at (by decide)]
  have s7 : (h4.1 0 13).toInt = 0 := by rw [g5, wI_is]; rfl
  exact R_vret rfl rfl ⟨hI, fr, rfl⟩
abbrev q_X8_fault (h : PH) (a0 : Int32) : Option PV → PH → Prop := fun r h' => h = h' ∧ ∃ z : Int32, r = some (.inl z) ∧ ((True))
set_option maxHeartbeats 4000000 in
set_option maxRecDepth 100000 in
theorem k_X8_fault (h : PH) (hI : INV h) (a0 : Int32) : CALL d_X8_fault [.inr (.inr (.inl 0)), .inl a0] h (q_X8_fault h a0) := by
  show RUN d_X8_fault 0 [(0, .inr (.inr (.inl 0))), (1, .inl a0)] [] h _
  have b1 := i_rng a0
  refine R_iload_n (k := 1) rfl rfl rfl ?_
  refine N_if_ne (a := a0.toInt) 12 rfl rfl rfl (fun c2 => ?_) (fun c2 => ?_)
  · refine R_iload_n (k := 1) rfl rfl rfl ?_
    refine R_iconst 1 rfl rfl ?_
    refine N_icmp_ne (a := a0.toInt) (b := 1) 27 rfl rfl rfl (by decide) (fun c3 => ?_) (fun c3 => ?_)
    · refine R_iconst (-1) rfl rfl ?_
      exact R_iret rfl rfl rfl ⟨rfl, _, rfl, trivial⟩
    · refine R_aload_n (k := 0) rfl rfl rfl ?_
      refine R_getf_r (j := 0) rfl ft_8_10 sh_0 rfl ?_
      refine R_getf_i (j := 2) rfl ft_8_116 sh_1 rfl ?_
      refine R_goto 28 rfl rfl ?_
      exact R_iret rfl rfl rfl ⟨rfl, _, rfl, trivial⟩
  · refine R_aload_n (k := 0) rfl rfl rfl ?_
    refine R_getf_r (j := 0) rfl ft_8_10 sh_0 rfl ?_
    refine R_getf_i (j := 1) rfl ft_8_113 sh_1 rfl ?_
    exact R_iret rfl rfl rfl ⟨rfl, _, rfl, trivial⟩
abbrev q_X9_fault (h : PH) (a0 : Int32) : Option PV → PH → Prop := fun r h' => h = h' ∧ ∃ z : Int32, r = some (.inl z) ∧ ((True))
set_option maxHeartbeats 4000000 in
set_option maxRecDepth 100000 in
theorem k_X9_fault (h : PH) (hI : INV h) (a0 : Int32) : CALL d_X9_fault [.inr (.inr (.inl 96)), .inl a0] h (q_X9_fault h a0) := by
  show RUN d_X9_fault 0 [(0, .inr (.inr (.inl 96))), (1, .inl a0)] [] h _
  have b1 := i_rng a0
  refine R_iload_n (k := 1) rfl rfl rfl ?_
  refine N_if_ne (a := a0.toInt) 11 rfl rfl rfl (fun c2 => ?_) (fun c2 => ?_)
  · refine R_iload_n (k := 1) rfl rfl rfl ?_
    refine R_iconst 1 rfl rfl ?_
    refine N_icmp_ne (a := a0.toInt) (b := 1) 23 rfl rfl rfl (by decide) (fun c3 => ?_) (fun c3 => ?_)
    · refine R_iconst (-1) rfl rfl ?_
      exact R_iret rfl rfl rfl ⟨rfl, _, rfl, trivial⟩
    · refine R_aload_n (k := 0) rfl rfl rfl ?_
      refine R_getf_i (j := 13) rfl ft_9_27 sh_96 rfl ?_
      refine R_goto 24 rfl rfl ?_
      exact R_iret rfl rfl rfl ⟨rfl, _, rfl, trivial⟩
  · refine R_aload_n (k := 0) rfl rfl rfl ?_
    refine R_getf_i (j := 12) rfl ft_9_173 sh_96 rfl ?_
    refine R_goto 24 rfl rfl ?_
    exact R_iret rfl rfl rfl ⟨rfl, _, rfl, trivial⟩
abbrev q_X1_hasHand (h : PH) (a0 : Int32) : Option PV → PH → Prop := fun r h' => h = h' ∧ ∃ z : Int32, r = some (.inl z) ∧ ((z.toInt = 0 ∧ a0.toInt ≤ (-1)) ∨ (z.toInt = 0 ∧ 0 ≤ a0.toInt ∧ (h.1 17 5).toInt ≤ a0.toInt + 0) ∨ (z.toInt = 1 ∧ 0 ≤ a0.toInt ∧ a0.toInt ≤ 5 ∧ 1 ≤ (h.1 17 5).toInt ∧ (h.1 17 5).toInt ≤ 6 ∧ a0.toInt ≤ (h.1 17 5).toInt + (-1)))
set_option maxHeartbeats 4000000 in
set_option maxRecDepth 100000 in
theorem k_X1_hasHand (h : PH) (hI : INV h) (a0 : Int32) : CALL d_X1_hasHand [.inr (.inr (.inl 16)), .inl a0] h (q_X1_hasHand h a0) := by
  show RUN d_X1_hasHand 0 [(0, .inr (.inr (.inl 16))), (1, .inl a0)] [] h _
  have b1 := i_rng a0
  refine R_iload_n (k := 1) rfl rfl rfl ?_
  refine N_if_lt (a := a0.toInt) 18 rfl rfl rfl (fun c2 => ?_) (fun c2 => ?_)
  · refine R_iconst 0 rfl rfl ?_
    exact R_iret rfl rfl rfl ⟨rfl, _, rfl, by rw [show (0 : Int32).toInt = 0 from rfl]; omega⟩
  · refine R_iload_n (k := 1) rfl rfl rfl ?_
    refine R_aload_n (k := 0) rfl rfl rfl ?_
    refine R_getf_r (j := 0) rfl ft_1_9 sh_16 rfl ?_
    refine R_iconst 5 rfl rfl ?_
    refine R_iald rfl sh_17 (by decide) ?_
    have b3 : (0 : Int) ≤ (h.1 17 5).toInt ∧ (h.1 17 5).toInt ≤ 6 := hI.1 17 5
    show RUN d_X1_hasHand 11 [(0, .inr (.inr (.inl 16))), (1, .inl a0)] [.inl (h.1 17 5), .inl a0] h _
    refine N_icmp_ge (a := a0.toInt) (b := (h.1 17 5).toInt) 18 rfl rfl rfl rfl (fun c4 => ?_) (fun c4 => ?_)
    · refine R_iconst 0 rfl rfl ?_
      exact R_iret rfl rfl rfl ⟨rfl, _, rfl, by rw [show (0 : Int32).toInt = 0 from rfl]; omega⟩
    · refine R_iconst 1 rfl rfl ?_
      refine R_goto 19 rfl rfl ?_
      exact R_iret rfl rfl rfl ⟨rfl, _, rfl, by rw [show (1 : Int32).toInt = 1 from rfl]; omega⟩
abbrev q_X8_isEither (h : PH) (a0 : Int32) : Option PV → PH → Prop := fun r h' => h = h' ∧ ∃ z : Int32, r = some (.inl z) ∧ ((z.toInt = 1 ∧ a0.toInt = 0) ∨ (z.toInt = 0) ∨ (z.toInt = 1 ∧ a0.toInt = 1))
set_option maxHeartbeats 4000000 in
set_option maxRecDepth 100000 in
theorem k_X8_isEither (h : PH) (hI : INV h) (a0 : Int32) : CALL d_X8_isEither [.inl a0] h (q_X8_isEither h a0) := by
  show RUN d_X8_isEither 0 [(0, .inl a0)] [] h _
  have b1 := i_rng a0
  refine R_iload_n (k := 0) rfl rfl rfl ?_
  refine N_if_eq (a := a0.toInt) 9 rfl rfl rfl (fun c2 => ?_) (fun c2 => ?_)
  · refine R_iconst 1 rfl rfl ?_
    refine R_goto 14 rfl rfl ?_
    exact R_iret rfl rfl rfl ⟨rfl, _, rfl, by rw [show (1 : Int32).toInt = 1 from rfl]; omega⟩
  · refine R_iload_n (k := 0) rfl rfl rfl ?_
    refine R_iconst 1 rfl rfl ?_
    refine N_icmp_ne (a := a0.toInt) (b := 1) 13 rfl rfl rfl (by decide) (fun c3 => ?_) (fun c3 => ?_)
    · refine R_iconst 0 rfl rfl ?_
      exact R_iret rfl rfl rfl ⟨rfl, _, rfl, by rw [show (0 : Int32).toInt = 0 from rfl]; omega⟩
    · refine R_iconst 1 rfl rfl ?_
      refine R_goto 14 rfl rfl ?_
      exact R_iret rfl rfl rfl ⟨rfl, _, rfl, by rw [show (1 : Int32).toInt = 1 from rfl]; omega⟩
abbrev q_X8_hand (h : PH) (a0 : Int32) (a1 : Int32) : Option PV → PH → Prop := fun r h' => h = h' ∧ ∃ z : Int32, r = some (.inl z) ∧ ((True))
set_option maxHeartbeats 4000000 in
set_option maxRecDepth 100000 in
theorem k_X8_hand (h : PH) (hI : INV h) (a0 : Int32) (a1 : Int32) : CALL d_X8_hand [.inr (.inr (.inl 0)), .inl a0, .inl a1] h (q_X8_hand h a0 a1) := by
  show RUN d_X8_hand 0 [(0, .inr (.inr (.inl 0))), (1, .inl a0), (2, .inl a1)] [] h _
  have b1 := i_rng a0
  have b2 := i_rng a1
  refine R_aload_n (k := 0) rfl rfl rfl ?_
  refine R_getf_r (j := 3) rfl ft_8_28 sh_0 rfl ?_
  refine R_iload_n (k := 1) rfl rfl rfl ?_
  refine R_callV (v := .inr (.inr (.inl 16))) (As := [.inl a0]) (rest := []) rfl mt_8_i119 pp_X1_hasHand (by decide) rfl rfl rfl (Nat.le_of_ble_eq_true rfl) (Nat.le_of_ble_eq_true rfl) ((k_X1_hasHand h hI a0).mono (fun r3 h4 p5 => ?_))
  obtain ⟨rfl, x6, rfl, q7 | q7 | q7⟩ := p5
  · show RUN d_X8_hand 8 [(0, .inr (.inr (.inl 0))), (1, .inl a0), (2, .inl a1)] [.inl x6] h _
    refine N_if_eq (a := x6.toInt) 18 rfl rfl rfl (fun c8 => ?_) (fun c8 => ?_)
    · refine R_bipush (-2) rfl rfl ?_
      exact R_iret rfl rfl rfl ⟨rfl, _, rfl, trivial⟩
    · exfalso; omega
  · have b9 : (0 : Int) ≤ (h.1 17 5).toInt ∧ (h.1 17 5).toInt ≤ 6 := hI.1 17 5
    show RUN d_X8_hand 8 [(0, .inr (.inr (.inl 0))), (1, .inl a0), (2, .inl a1)] [.inl x6] h _
    refine N_if_eq (a := x6.toInt) 18 rfl rfl rfl (fun c10 => ?_) (fun c10 => ?_)
    · refine R_bipush (-2) rfl rfl ?_
      exact R_iret rfl rfl rfl ⟨rfl, _, rfl, trivial⟩
    · exfalso; omega
  · have b11 : (0 : Int) ≤ (h.1 17 5).toInt ∧ (h.1 17 5).toInt ≤ 6 := hI.1 17 5
    show RUN d_X8_hand 8 [(0, .inr (.inr (.inl 0))), (1, .inl a0), (2, .inl a1)] [.inl x6] h _
    refine N_if_eq (a := x6.toInt) 18 rfl rfl rfl (fun c12 => ?_) (fun c12 => ?_)
    · exfalso; omega
    · refine R_iload_n (k := 2) rfl rfl rfl ?_
      refine R_callS (As := [.inl a1]) (rest := []) rfl mt_8_i122 (by decide) pp_X8_isEither (by decide) rfl rfl (Nat.le_of_ble_eq_true rfl) (Nat.le_of_ble_eq_true rfl) ((k_X8_isEither h hI a1).mono (fun r13 h14 p15 => ?_))
      obtain ⟨rfl, x16, rfl, q17 | q17 | q17⟩ := p15
      · show RUN d_X8_hand 15 [(0, .inr (.inr (.inl 0))), (1, .inl a0), (2, .inl a1)] [.inl x16] h _
        refine N_if_ne (a := x16.toInt) 21 rfl rfl rfl (fun c18 => ?_) (fun c18 => ?_)
        · refine R_iload_n (k := 2) rfl rfl rfl ?_
          refine N_if_ne (a := a1.toInt) 37 rfl rfl rfl (fun c19 => ?_) (fun c19 => ?_)
          · exfalso; omega
          · refine R_aload_n (k := 0) rfl rfl rfl ?_
            refine R_getf_r (j := 3) rfl ft_8_28 sh_0 rfl ?_
            refine R_getf_r (j := 2) rfl ft_8_125 sh_16 rfl ?_
            refine R_iload_n (k := 1) rfl rfl rfl ?_
            refine R_iald rfl sh_19 ⟨by omega, by omega⟩ ?_
            refine N_any (fun x20 => ?_)
            refine R_goto 46 rfl rfl ?_
            exact R_iret rfl rfl rfl ⟨rfl, _, rfl, trivial⟩
        · exfalso; omega
      · show RUN d_X8_hand 15 [(0, .inr (.inr (.inl 0))), (1, .inl a0), (2, .inl a1)] [.inl x16] h _
        refine N_if_ne (a := x16.toInt) 21 rfl rfl rfl (fun c21 => ?_) (fun c21 => ?_)
        · exfalso; omega
        · refine R_bipush (-2) rfl rfl ?_
          exact R_iret rfl rfl rfl ⟨rfl, _, rfl, trivial⟩
      · show RUN d_X8_hand 15 [(0, .inr (.inr (.inl 0))), (1, .inl a0), (2, .inl a1)] [.inl x16] h _
        refine N_if_ne (a := x16.toInt) 21 rfl rfl rfl (fun c22 => ?_) (fun c22 => ?_)
        · refine R_iload_n (k := 2) rfl rfl rfl ?_
          refine N_if_ne (a := a1.toInt) 37 rfl rfl rfl (fun c23 => ?_) (fun c23 => ?_)
          · refine R_aload_n (k := 0) rfl rfl rfl ?_
            refine R_getf_r (j := 3) rfl ft_8_28 sh_0 rfl ?_
            refine R_getf_r (j := 3) rfl ft_8_128 sh_16 rfl ?_
            refine R_iload_n (k := 1) rfl rfl rfl ?_
            refine R_iald rfl sh_20 ⟨by omega, by omega⟩ ?_
            refine N_any (fun x24 => ?_)
            exact R_iret rfl rfl rfl ⟨rfl, _, rfl, trivial⟩
          · exfalso; omega
        · exfalso; omega
abbrev q_X9_hands (h : PH)  : Option PV → PH → Prop := fun r h' => h = h' ∧ ∃ z : Int32, r = some (.inl z) ∧ ((0 ≤ z.toInt ∧ z.toInt ≤ 6))
set_option maxHeartbeats 4000000 in
set_option maxRecDepth 100000 in
theorem k_X9_hands (h : PH) (hI : INV h)  : CALL d_X9_hands [.inr (.inr (.inl 96))] h (q_X9_hands h) := by
  show RUN d_X9_hands 0 [(0, .inr (.inr (.inl 96)))] [] h _
  refine R_aload_n (k := 0) rfl rfl rfl ?_
  refine R_getf_r (j := 1) rfl ft_9_9 sh_96 rfl ?_
  refine R_iconst 5 rfl rfl ?_
  refine R_iald rfl sh_97 (by decide) ?_
  have b1 : (0 : Int) ≤ (h.1 97 5).toInt ∧ (h.1 97 5).toInt ≤ 6 := hI.1 97 5
  show RUN d_X9_hands 6 [(0, .inr (.inr (.inl 96)))] [.inl (h.1 97 5)] h _
  exact R_iret rfl rfl rfl ⟨rfl, _, rfl, by omega⟩
abbrev q_X9_isHand (h : PH) (a0 : Int32) : Option PV → PH → Prop := fun r h' => h = h' ∧ ∃ z : Int32, r = some (.inl z) ∧ ((z.toInt = 0 ∧ a0.toInt ≤ (-1)) ∨ (z.toInt = 0 ∧ 0 ≤ a0.toInt ∧ (h.1 97 5).toInt ≤ a0.toInt + 0) ∨ (z.toInt = 1 ∧ 0 ≤ a0.toInt ∧ a0.toInt ≤ 5 ∧ 1 ≤ (h.1 97 5).toInt ∧ (h.1 97 5).toInt ≤ 6 ∧ a0.toInt ≤ (h.1 97 5).toInt + (-1)))
set_option maxHeartbeats 4000000 in
set_option maxRecDepth 100000 in
theorem k_X9_isHand (h : PH) (hI : INV h) (a0 : Int32) : CALL d_X9_isHand [.inr (.inr (.inl 96)), .inl a0] h (q_X9_isHand h a0) := by
  show RUN d_X9_isHand 0 [(0, .inr (.inr (.inl 96))), (1, .inl a0)] [] h _
  have b1 := i_rng a0
  refine R_iload_n (k := 1) rfl rfl rfl ?_
  refine N_i2l rfl (fun w2 q3 => ?_)
  refine R_lconst 0 rfl rfl ?_
  refine R_aload_n (k := 0) rfl rfl rfl ?_
  refine R_getf_r (j := 1) rfl ft_9_9 sh_96 rfl ?_
  refine R_iconst 5 rfl rfl ?_
  refine R_iald rfl sh_97 (by decide) ?_
  have b4 : (0 : Int) ≤ (h.1 97 5).toInt ∧ (h.1 97 5).toInt ≤ 6 := hI.1 97 5
  show RUN d_X9_isHand 9 [(0, .inr (.inr (.inl 96))), (1, .inl a0)] [.inl (h.1 97 5), .inr (.inl 0), .inr (.inl w2)] h _
  refine R_iconst 1 rfl rfl ?_
  refine N_isub (a := (h.1 97 5).toInt) (b := 1) rfl rfl (by decide) (by omega) (fun x5 q6 => ?_)
  refine N_i2l rfl (fun w7 q8 => ?_)
  have k9 : (0 : Int64).toInt = 0 := by decide
  refine R_callS (As := [.inr (.inl w2), .inr (.inl 0), .inr (.inl w7)]) (rest := []) rfl mt_9_i125 (by decide) pp_X9_in (by decide) rfl rfl (Nat.le_of_ble_eq_true rfl) (Nat.le_of_ble_eq_true rfl) ((k_X9_in h hI w2 (0 : Int64) w7).mono (fun r10 h11 p12 => ?_))
  obtain ⟨rfl, x13, rfl, q14 | q14 | q14⟩ := p12
  · show RUN d_X9_isHand 15 [(0, .inr (.inr (.inl 96))), (1, .inl a0)] [.inl x13] h _
    exact R_iret rfl rfl (nar_z (by omega)) ⟨rfl, _, rfl, by omega⟩
  · show RUN d_X9_isHand 15 [(0, .inr (.inr (.inl 96))), (1, .inl a0)] [.inl x13] h _
    exact R_iret rfl rfl (nar_z (by omega)) ⟨rfl, _, rfl, by omega⟩
  · show RUN d_X9_isHand 15 [(0, .inr (.inr (.inl 96))), (1, .inl a0)] [.inl x13] h _
    exact R_iret rfl rfl (nar_z (by omega)) ⟨rfl, _, rfl, by omega⟩
abbrev q_X1_hasPair (h : PH) (a0 : Int32) : Option PV → PH → Prop := fun r h' => h = h' ∧ ∃ z : Int32, r = some (.inl z) ∧ ((z.toInt = 0 ∧ a0.toInt ≤ (-1)) ∨ (z.toInt = 0 ∧ 0 ≤ a0.toInt ∧ (h.1 17 6).toInt ≤ a0.toInt + 0) ∨ (z.toInt = 1 ∧ 0 ≤ a0.toInt ∧ a0.toInt ≤ 4 ∧ 1 ≤ (h.1 17 6).toInt ∧ (h.1 17 6).toInt ≤ 5 ∧ a0.toInt ≤ (h.1 17 6).toInt + (-1)))
set_option maxHeartbeats 4000000 in
set_option maxRecDepth 100000 in
theorem k_X1_hasPair (h : PH) (hI : INV h) (a0 : Int32) : CALL d_X1_hasPair [.inr (.inr (.inl 16)), .inl a0] h (q_X1_hasPair h a0) := by
  show RUN d_X1_hasPair 0 [(0, .inr (.inr (.inl 16))), (1, .inl a0)] [] h _
  have b1 := i_rng a0
  refine R_iload_n (k := 1) rfl rfl rfl ?_
  refine N_if_lt (a := a0.toInt) 19 rfl rfl rfl (fun c2 => ?_) (fun c2 => ?_)
  · refine R_iconst 0 rfl rfl ?_
    exact R_iret rfl rfl rfl ⟨rfl, _, rfl, by rw [show (0 : Int32).toInt = 0 from rfl]; omega⟩
  · refine R_iload_n (k := 1) rfl rfl rfl ?_
    refine R_aload_n (k := 0) rfl rfl rfl ?_
    refine R_getf_r (j := 0) rfl ft_1_9 sh_16 rfl ?_
    refine R_bipush 6 rfl rfl ?_
    refine R_iald rfl sh_17 (by decide) ?_
    have b3 : (0 : Int) ≤ (h.1 17 6).toInt ∧ (h.1 17 6).toInt ≤ 5 := hI.1 17 6
    show RUN d_X1_hasPair 12 [(0, .inr (.inr (.inl 16))), (1, .inl a0)] [.inl (h.1 17 6), .inl a0] h _
    refine N_icmp_ge (a := a0.toInt) (b := (h.1 17 6).toInt) 19 rfl rfl rfl rfl (fun c4 => ?_) (fun c4 => ?_)
    · refine R_iconst 0 rfl rfl ?_
      exact R_iret rfl rfl rfl ⟨rfl, _, rfl, by rw [show (0 : Int32).toInt = 0 from rfl]; omega⟩
    · refine R_iconst 1 rfl rfl ?_
      refine R_goto 20 rfl rfl ?_
      exact R_iret rfl rfl rfl ⟨rfl, _, rfl, by rw [show (1 : Int32).toInt = 1 from rfl]; omega⟩
abbrev q_X8_pair (h : PH) (a0 : Int32) (a1 : Int32) : Option PV → PH → Prop := fun r h' => h = h' ∧ ∃ z : Int32, r = some (.inl z) ∧ ((True))
set_option maxHeartbeats 4000000 in
set_option maxRecDepth 100000 in
theorem k_X8_pair (h : PH) (hI : INV h) (a0 : Int32) (a1 : Int32) : CALL d_X8_pair [.inr (.inr (.inl 0)), .inl a0, .inl a1] h (q_X8_pair h a0 a1) := by
  show RUN d_X8_pair 0 [(0, .inr (.inr (.inl 0))), (1, .inl a0), (2, .inl a1)] [] h _
  have b1 := i_rng a0
  have b2 := i_rng a1
  refine R_aload_n (k := 0) rfl rfl rfl ?_
  refine R_getf_r (j := 3) rfl ft_8_28 sh_0 rfl ?_
  refine R_iload_n (k := 1) rfl rfl rfl ?_
  refine R_callV (v := .inr (.inr (.inl 16))) (As := [.inl a0]) (rest := []) rfl mt_8_i131 pp_X1_hasPair (by decide) rfl rfl rfl (Nat.le_of_ble_eq_true rfl) (Nat.le_of_ble_eq_true rfl) ((k_X1_hasPair h hI a0).mono (fun r3 h4 p5 => ?_))
  obtain ⟨rfl, x6, rfl, q7 | q7 | q7⟩ := p5
  · show RUN d_X8_pair 8 [(0, .inr (.inr (.inl 0))), (1, .inl a0), (2, .inl a1)] [.inl x6] h _
    refine N_if_eq (a := x6.toInt) 20 rfl rfl rfl (fun c8 => ?_) (fun c8 => ?_)
    · refine R_bipush (-2) rfl rfl ?_
      exact R_iret rfl rfl rfl ⟨rfl, _, rfl, trivial⟩
    · exfalso; omega
  · have b9 : (0 : Int) ≤ (h.1 17 6).toInt ∧ (h.1 17 6).toInt ≤ 5 := hI.1 17 6
    show RUN d_X8_pair 8 [(0, .inr (.inr (.inl 0))), (1, .inl a0), (2, .inl a1)] [.inl x6] h _
    refine N_if_eq (a := x6.toInt) 20 rfl rfl rfl (fun c10 => ?_) (fun c10 => ?_)
    · refine R_bipush (-2) rfl rfl ?_
      exact R_iret rfl rfl rfl ⟨rfl, _, rfl, trivial⟩
    · exfalso; omega
  · have b11 : (0 : Int) ≤ (h.1 17 6).toInt ∧ (h.1 17 6).toInt ≤ 5 := hI.1 17 6
    show RUN d_X8_pair 8 [(0, .inr (.inr (.inl 0))), (1, .inl a0), (2, .inl a1)] [.inl x6] h _
    refine N_if_eq (a := x6.toInt) 20 rfl rfl rfl (fun c12 => ?_) (fun c12 => ?_)
    · exfalso; omega
    · refine R_iload_n (k := 2) rfl rfl rfl ?_
      refine N_if_lt (a := a1.toInt) 20 rfl rfl rfl (fun c13 => ?_) (fun c13 => ?_)
      · refine R_bipush (-2) rfl rfl ?_
        exact R_iret rfl rfl rfl ⟨rfl, _, rfl, trivial⟩
      · refine R_iload_n (k := 2) rfl rfl rfl ?_
        refine R_iconst 2 rfl rfl ?_
        refine N_icmp_le (a := a1.toInt) (b := 2) 23 rfl rfl rfl (by decide) (fun c14 => ?_) (fun c14 => ?_)
        · refine R_iload_n (k := 2) rfl rfl rfl ?_
          refine R_iconst 2 rfl rfl ?_
          refine N_icmp_ne (a := a1.toInt) (b := 2) 38 rfl rfl rfl (by decide) (fun c15 => ?_) (fun c15 => ?_)
          · refine R_iload_n (k := 2) rfl rfl rfl ?_
            refine N_if_ne (a := a1.toInt) 54 rfl rfl rfl (fun c16 => ?_) (fun c16 => ?_)
            · refine R_aload_n (k := 0) rfl rfl rfl ?_
              refine R_getf_r (j := 3) rfl ft_8_28 sh_0 rfl ?_
              refine R_getf_r (j := 6) rfl ft_8_140 sh_16 rfl ?_
              refine R_iload_n (k := 1) rfl rfl rfl ?_
              refine R_iald rfl sh_23 ⟨by omega, by omega⟩ ?_
              refine N_bd (lo := 0) (hi := 5) (hI.1 23 _) (fun x17 q18 => ?_)
              exact R_iret rfl rfl rfl ⟨rfl, _, rfl, trivial⟩
            · refine R_aload_n (k := 0) rfl rfl rfl ?_
              refine R_getf_r (j := 3) rfl ft_8_28 sh_0 rfl ?_
              refine R_getf_r (j := 5) rfl ft_8_137 sh_16 rfl ?_
              refine R_iload_n (k := 1) rfl rfl rfl ?_
              refine R_iald rfl sh_22 ⟨by omega, by omega⟩ ?_
              refine N_bd (lo := 0) (hi := 5) (hI.1 22 _) (fun x19 q20 => ?_)
              refine R_goto 63 rfl rfl ?_
              exact R_iret rfl rfl rfl ⟨rfl, _, rfl, trivial⟩
          · refine R_aload_n (k := 0) rfl rfl rfl ?_
            refine R_getf_r (j := 3) rfl ft_8_28 sh_0 rfl ?_
            refine R_getf_r (j := 7) rfl ft_8_134 sh_16 rfl ?_
            refine R_iload_n (k := 1) rfl rfl rfl ?_
            refine R_iald rfl sh_24 ⟨by omega, by omega⟩ ?_
            refine N_any (fun x21 => ?_)
            exact R_iret rfl rfl rfl ⟨rfl, _, rfl, trivial⟩
        · refine R_bipush (-2) rfl rfl ?_
          exact R_iret rfl rfl rfl ⟨rfl, _, rfl, trivial⟩
abbrev q_X9_pair (h : PH) (a0 : Int32) (a1 : Int32) : Option PV → PH → Prop := fun r h' => h = h' ∧ ∃ z : Int32, r = some (.inl z) ∧ ((True))
set_option maxHeartbeats 4000000 in
set_option maxRecDepth 100000 in
theorem k_X9_pair (h : PH) (hI : INV h) (a0 : Int32) (a1 : Int32) : CALL d_X9_pair [.inr (.inr (.inl 96)), .inl a0, .inl a1] h (q_X9_pair h a0 a1) := by
  show RUN d_X9_pair 0 [(0, .inr (.inr (.inl 96))), (1, .inl a0), (2, .inl a1)] [] h _
  have b1 := i_rng a0
  have b2 := i_rng a1
  refine R_iload_n (k := 1) rfl rfl rfl ?_
  refine N_i2l rfl (fun w3 q4 => ?_)
  refine R_lconst 0 rfl rfl ?_
  refine R_aload_n (k := 0) rfl rfl rfl ?_
  refine R_getf_r (j := 1) rfl ft_9_9 sh_96 rfl ?_
  refine R_bipush 6 rfl rfl ?_
  refine R_iald rfl sh_97 (by decide) ?_
  have b5 : (0 : Int) ≤ (h.1 97 6).toInt ∧ (h.1 97 6).toInt ≤ 5 := hI.1 97 6
  show RUN d_X9_pair 10 [(0, .inr (.inr (.inl 96))), (1, .inl a0), (2, .inl a1)] [.inl (h.1 97 6), .inr (.inl 0), .inr (.inl w3)] h _
  refine R_iconst 1 rfl rfl ?_
  refine N_isub (a := (h.1 97 6).toInt) (b := 1) rfl rfl (by decide) (by omega) (fun x6 q7 => ?_)
  refine N_i2l rfl (fun w8 q9 => ?_)
  have k10 : (0 : Int64).toInt = 0 := by decide
  refine R_callS (As := [.inr (.inl w3), .inr (.inl 0), .inr (.inl w8)]) (rest := []) rfl mt_9_i125 (by decide) pp_X9_in (by decide) rfl rfl (Nat.le_of_ble_eq_true rfl) (Nat.le_of_ble_eq_true rfl) ((k_X9_in h hI w3 (0 : Int64) w8).mono (fun r11 h12 p13 => ?_))
  obtain ⟨rfl, x14, rfl, q15 | q15 | q15⟩ := p13
  · show RUN d_X9_pair 16 [(0, .inr (.inr (.inl 96))), (1, .inl a0), (2, .inl a1)] [.inl x14] h _
    refine N_if_eq (a := x14.toInt) 47 rfl rfl rfl (fun c16 => ?_) (fun c16 => ?_)
    · refine R_bipush (-2) rfl rfl ?_
      exact R_iret rfl rfl rfl ⟨rfl, _, rfl, trivial⟩
    · exfalso; omega
  · show RUN d_X9_pair 16 [(0, .inr (.inr (.inl 96))), (1, .inl a0), (2, .inl a1)] [.inl x14] h _
    refine N_if_eq (a := x14.toInt) 47 rfl rfl rfl (fun c17 => ?_) (fun c17 => ?_)
    · refine R_bipush (-2) rfl rfl ?_
      exact R_iret rfl rfl rfl ⟨rfl, _, rfl, trivial⟩
    · exfalso; omega
  · show RUN d_X9_pair 16 [(0, .inr (.inr (.inl 96))), (1, .inl a0), (2, .inl a1)] [.inl x14] h _
    refine N_if_eq (a := x14.toInt) 47 rfl rfl rfl (fun c18 => ?_) (fun c18 => ?_)
    · exfalso; omega
    · refine R_iload_n (k := 2) rfl rfl rfl ?_
      refine N_i2l rfl (fun w19 q20 => ?_)
      refine R_lconst 0 rfl rfl ?_
      refine R_ldc2 (x := 2) rfl kt_9_123 ?_
      have k21 : (0 : Int64).toInt = 0 := by decide
      have k22 : (2 : Int64).toInt = 2 := by decide
      refine R_callS (As := [.inr (.inl w19), .inr (.inl 0), .inr (.inl 2)]) (rest := []) rfl mt_9_i125 (by decide) pp_X9_in (by decide) rfl rfl (Nat.le_of_ble_eq_true rfl) (Nat.le_of_ble_eq_true rfl) ((k_X9_in h hI w19 (0 : Int64) (2 : Int64)).mono (fun r23 h24 p25 => ?_))
      obtain ⟨rfl, x26, rfl, q27 | q27 | q27⟩ := p25
      · show RUN d_X9_pair 28 [(0, .inr (.inr (.inl 96))), (1, .inl a0), (2, .inl a1)] [.inl x26] h _
        refine N_if_eq (a := x26.toInt) 47 rfl rfl rfl (fun c28 => ?_) (fun c28 => ?_)
        · refine R_bipush (-2) rfl rfl ?_
          exact R_iret rfl rfl rfl ⟨rfl, _, rfl, trivial⟩
        · exfalso; omega
      · show RUN d_X9_pair 28 [(0, .inr (.inr (.inl 96))), (1, .inl a0), (2, .inl a1)] [.inl x26] h _
        refine N_if_eq (a := x26.toInt) 47 rfl rfl rfl (fun c29 => ?_) (fun c29 => ?_)
        · refine R_bipush (-2) rfl rfl ?_
          exact R_iret rfl rfl rfl ⟨rfl, _, rfl, trivial⟩
        · exfalso; omega
      · show RUN d_X9_pair 28 [(0, .inr (.inr (.inl 96))), (1, .inl a0), (2, .inl a1)] [.inl x26] h _
        refine N_if_eq (a := x26.toInt) 47 rfl rfl rfl (fun c30 => ?_) (fun c30 => ?_)
        · exfalso; omega
        · refine R_aload_n (k := 0) rfl rfl rfl ?_
          refine R_getf_r (j := 1) rfl ft_9_9 sh_96 rfl ?_
          refine R_bipush 23 rfl rfl ?_
          refine R_iconst 3 rfl rfl ?_
          refine R_iload_n (k := 1) rfl rfl rfl ?_
          refine N_imul (a := 3) (b := a0.toInt) rfl (by decide) rfl (by omega) (fun x31 q32 => ?_)
          refine N_iadd (a := 23) (b := x31.toInt) rfl (by decide) rfl (by omega) (fun x33 q34 => ?_)
          refine R_iload_n (k := 2) rfl rfl rfl ?_
          refine N_iadd (a := x33.toInt) (b := a1.toInt) rfl rfl rfl (by omega) (fun x35 q36 => ?_)
          refine R_iald rfl sh_97 ⟨by omega, by omega⟩ ?_
          refine N_any (fun x37 => ?_)
          refine R_goto 49 rfl rfl ?_
          exact R_iret rfl rfl rfl ⟨rfl, _, rfl, trivial⟩
abbrev q_X1_keptAt (h : PH) (a0 : Int32) (a1 : Int32) (a2 : Int32) : Option PV → PH → Prop := fun r h' => h = h' ∧ ∃ z : Int32, r = some (.inl z) ∧ ((z.toInt = 1) ∨ (z.toInt = 0))
set_option maxHeartbeats 4000000 in
set_option maxRecDepth 100000 in
theorem k_X1_keptAt (h : PH) (hI : INV h) (a0 : Int32) (a1 : Int32) (a2 : Int32) (h0a : 0 ≤ a0.toInt ∧ a0.toInt ≤ 4) : CALL d_X1_keptAt [.inr (.inr (.inl 16)), .inl a0, .inl a1, .inl a2] h (q_X1_keptAt h a0 a1 a2) := by
  show RUN d_X1_keptAt 0 [(0, .inr (.inr (.inl 16))), (1, .inl a0), (2, .inl a1), (3, .inl a2)] [] h _
  have b1 := i_rng a1
  have b2 := i_rng a2
  refine R_iload_n (k := 2) rfl rfl rfl ?_
  refine R_iload_n (k := 3) rfl rfl rfl ?_
  have b3 := i_rng a1
  have b4 := i_rng a2
  refine R_isub rfl ?_
  refine N_any (fun x5 => ?_)
  refine R_nat (b := 2) rfl mt_1_i52 rfl ⟨by decide, by decide, Nat.le_of_ble_eq_true rfl⟩ ?_
  refine N_any (fun x6 => ?_)
  refine R_iconst 1 rfl rfl ?_
  refine N_icmp_ne (a := x6.toInt) (b := 1) 14 rfl rfl rfl (by decide) (fun c7 => ?_) (fun c7 => ?_)
  · refine R_iconst 0 rfl rfl ?_
    refine R_istore (k := 4) [(4, .inl 0), (0, .inr (.inr (.inl 16))), (1, .inl a0), (2, .inl a1), (3, .inl a2)] rfl rfl (by decide) ?_
    refine R_iload (k := 4) rfl rfl ?_
    refine R_aload_n (k := 0) rfl rfl rfl ?_
    refine R_getf_r (j := 7) rfl ft_1_34 sh_16 rfl ?_
    refine R_iload_n (k := 1) rfl rfl rfl ?_
    refine R_iald rfl sh_24 ⟨by omega, by omega⟩ ?_
    refine N_any (fun x8 => ?_)
    refine R_iconst 1 rfl rfl ?_
    refine N_icmp_ne (a := x8.toInt) (b := 1) 33 rfl rfl rfl (by decide) (fun c9 => ?_) (fun c9 => ?_)
    · refine R_iconst 0 rfl rfl ?_
      refine N_icmp_ne (a := 0) (b := 0) 41 rfl rfl (by decide) (by decide) (fun c10 => ?_) (fun c10 => ?_)
      · exfalso; omega
      · refine R_iconst 1 rfl rfl ?_
        refine R_goto 42 rfl rfl ?_
        exact R_iret rfl rfl rfl ⟨rfl, _, rfl, by rw [show (1 : Int32).toInt = 1 from rfl]; omega⟩
    · refine R_iconst 1 rfl rfl ?_
      refine R_goto 34 rfl rfl ?_
      refine N_icmp_ne (a := 0) (b := 1) 41 rfl rfl (by decide) (by decide) (fun c11 => ?_) (fun c11 => ?_)
      · refine R_iconst 0 rfl rfl ?_
        exact R_iret rfl rfl rfl ⟨rfl, _, rfl, by rw [show (0 : Int32).toInt = 0 from rfl]; omega⟩
      · exfalso; omega
  · refine R_iconst 1 rfl rfl ?_
    refine R_goto 15 rfl rfl ?_
    refine R_istore (k := 4) [(4, .inl 1), (0, .inr (.inr (.inl 16))), (1, .inl a0), (2, .inl a1), (3, .inl a2)] rfl rfl (by decide) ?_
    refine R_iload (k := 4) rfl rfl ?_
    refine R_aload_n (k := 0) rfl rfl rfl ?_
    refine R_getf_r (j := 7) rfl ft_1_34 sh_16 rfl ?_
    refine R_iload_n (k := 1) rfl rfl rfl ?_
    refine R_iald rfl sh_24 ⟨by omega, by omega⟩ ?_
    refine N_any (fun x12 => ?_)
    refine R_iconst 1 rfl rfl ?_
    refine N_icmp_ne (a := x12.toInt) (b := 1) 33 rfl rfl rfl (by decide) (fun c13 => ?_) (fun c13 => ?_)
    · refine R_iconst 0 rfl rfl ?_
      refine N_icmp_ne (a := 1) (b := 0) 41 rfl rfl (by decide) (by decide) (fun c14 => ?_) (fun c14 => ?_)
      · refine R_iconst 0 rfl rfl ?_
        exact R_iret rfl rfl rfl ⟨rfl, _, rfl, by rw [show (0 : Int32).toInt = 0 from rfl]; omega⟩
      · exfalso; omega
    · refine R_iconst 1 rfl rfl ?_
      refine R_goto 34 rfl rfl ?_
      refine N_icmp_ne (a := 1) (b := 1) 41 rfl rfl (by decide) (by decide) (fun c15 => ?_) (fun c15 => ?_)
      · exfalso; omega
      · refine R_iconst 1 rfl rfl ?_
        refine R_goto 42 rfl rfl ?_
        exact R_iret rfl rfl rfl ⟨rfl, _, rfl, by rw [show (1 : Int32).toInt = 1 from rfl]; omega⟩
abbrev q_X1_keptAsTold (h : PH) (a0 : Int32) : Option PV → PH → Prop := fun r h' => h = h' ∧ ∃ z : Int32, r = some (.inl z) ∧ ((z.toInt = 1) ∨ (z.toInt = 0))
set_option maxHeartbeats 4000000 in
set_option maxRecDepth 100000 in
theorem k_X1_keptAsTold (h : PH) (hI : INV h) (a0 : Int32) (h0a : 0 ≤ a0.toInt ∧ a0.toInt ≤ 4) : CALL d_X1_keptAsTold [.inr (.inr (.inl 16)), .inl a0] h (q_X1_keptAsTold h a0) := by
  show RUN d_X1_keptAsTold 0 [(0, .inr (.inr (.inl 16))), (1, .inl a0)] [] h _
  refine R_aload_n (k := 0) rfl rfl rfl ?_
  refine R_iload_n (k := 1) rfl rfl rfl ?_
  refine R_aload_n (k := 0) rfl rfl rfl ?_
  refine R_getf_r (j := 5) rfl ft_1_28 sh_16 rfl ?_
  refine R_iload_n (k := 1) rfl rfl rfl ?_
  refine R_iald rfl sh_22 ⟨by omega, by omega⟩ ?_
  refine N_bd (lo := 0) (hi := 5) (hI.1 22 _) (fun x1 q2 => ?_)
  refine R_aload_n (k := 0) rfl rfl rfl ?_
  refine R_getf_r (j := 6) rfl ft_1_31 sh_16 rfl ?_
  refine R_iload_n (k := 1) rfl rfl rfl ?_
  refine R_iald rfl sh_23 ⟨by omega, by omega⟩ ?_
  refine N_bd (lo := 0) (hi := 5) (hI.1 23 _) (fun x3 q4 => ?_)
  refine R_callV (v := .inr (.inr (.inl 16))) (As := [.inl a0, .inl x1, .inl x3]) (rest := []) rfl mt_1_i58 pp_X1_keptAt (by decide) rfl rfl rfl (Nat.le_of_ble_eq_true rfl) (Nat.le_of_ble_eq_true rfl) ((k_X1_keptAt h hI a0 x1 x3 (by omega)).mono (fun r5 h6 p7 => ?_))
  obtain ⟨rfl, x8, rfl, q9 | q9⟩ := p7
  · show RUN d_X1_keptAsTold 17 [(0, .inr (.inr (.inl 16))), (1, .inl a0)] [.inl x8] h _
    exact R_iret rfl rfl (nar_z (by omega)) ⟨rfl, _, rfl, by omega⟩
  · show RUN d_X1_keptAsTold 17 [(0, .inr (.inr (.inl 16))), (1, .inl a0)] [.inl x8] h _
    exact R_iret rfl rfl (nar_z (by omega)) ⟨rfl, _, rfl, by omega⟩
abbrev q_X8_keeps (h : PH) (a0 : Int32) : Option PV → PH → Prop := fun r h' => h = h' ∧ ∃ z : Int32, r = some (.inl z) ∧ (((-2) ≤ z.toInt ∧ z.toInt ≤ 1))
set_option maxHeartbeats 4000000 in
set_option maxRecDepth 100000 in
theorem k_X8_keeps (h : PH) (hI : INV h) (a0 : Int32) : CALL d_X8_keeps [.inr (.inr (.inl 0)), .inl a0] h (q_X8_keeps h a0) := by
  show RUN d_X8_keeps 0 [(0, .inr (.inr (.inl 0))), (1, .inl a0)] [] h _
  have b1 := i_rng a0
  refine R_aload_n (k := 0) rfl rfl rfl ?_
  refine R_getf_r (j := 3) rfl ft_8_28 sh_0 rfl ?_
  refine R_iload_n (k := 1) rfl rfl rfl ?_
  refine R_callV (v := .inr (.inr (.inl 16))) (As := [.inl a0]) (rest := []) rfl mt_8_i131 pp_X1_hasPair (by decide) rfl rfl rfl (Nat.le_of_ble_eq_true rfl) (Nat.le_of_ble_eq_true rfl) ((k_X1_hasPair h hI a0).mono (fun r2 h3 p4 => ?_))
  obtain ⟨rfl, x5, rfl, q6 | q6 | q6⟩ := p4
  · show RUN d_X8_keeps 8 [(0, .inr (.inr (.inl 0))), (1, .inl a0)] [.inl x5] h _
    refine N_if_ne (a := x5.toInt) 14 rfl rfl rfl (fun c7 => ?_) (fun c7 => ?_)
    · exfalso; omega
    · refine R_bipush (-2) rfl rfl ?_
      exact R_iret rfl rfl rfl ⟨rfl, _, rfl, by rw [show ((-2) : Int32).toInt = (-2) from rfl]; omega⟩
  · have b8 : (0 : Int) ≤ (h.1 17 6).toInt ∧ (h.1 17 6).toInt ≤ 5 := hI.1 17 6
    show RUN d_X8_keeps 8 [(0, .inr (.inr (.inl 0))), (1, .inl a0)] [.inl x5] h _
    refine N_if_ne (a := x5.toInt) 14 rfl rfl rfl (fun c9 => ?_) (fun c9 => ?_)
    · exfalso; omega
    · refine R_bipush (-2) rfl rfl ?_
      exact R_iret rfl rfl rfl ⟨rfl, _, rfl, by rw [show ((-2) : Int32).toInt = (-2) from rfl]; omega⟩
  · have b10 : (0 : Int) ≤ (h.1 17 6).toInt ∧ (h.1 17 6).toInt ≤ 5 := hI.1 17 6
    show RUN d_X8_keeps 8 [(0, .inr (.inr (.inl 0))), (1, .inl a0)] [.inl x5] h _
    refine N_if_ne (a := x5.toInt) 14 rfl rfl rfl (fun c11 => ?_) (fun c11 => ?_)
    · refine R_aload_n (k := 0) rfl rfl rfl ?_
      refine R_getf_r (j := 3) rfl ft_8_28 sh_0 rfl ?_
      refine R_iload_n (k := 1) rfl rfl rfl ?_
      refine R_callV (v := .inr (.inr (.inl 16))) (As := [.inl a0]) (rest := []) rfl mt_8_i143 pp_X1_keptAsTold (by decide) rfl rfl rfl (Nat.le_of_ble_eq_true rfl) (Nat.le_of_ble_eq_true rfl) ((k_X1_keptAsTold h hI a0 (by omega)).mono (fun r12 h13 p14 => ?_))
      obtain ⟨rfl, x15, rfl, q16 | q16⟩ := p14
      · show RUN d_X8_keeps 22 [(0, .inr (.inr (.inl 0))), (1, .inl a0)] [.inl x15] h _
        refine N_if_eq (a := x15.toInt) 29 rfl rfl rfl (fun c17 => ?_) (fun c17 => ?_)
        · exfalso; omega
        · refine R_iconst 1 rfl rfl ?_
          refine R_goto 30 rfl rfl ?_
          exact R_iret rfl rfl rfl ⟨rfl, _, rfl, by rw [show (1 : Int32).toInt = 1 from rfl]; omega⟩
      · show RUN d_X8_keeps 22 [(0, .inr (.inr (.inl 0))), (1, .inl a0)] [.inl x15] h _
        refine N_if_eq (a := x15.toInt) 29 rfl rfl rfl (fun c18 => ?_) (fun c18 => ?_)
        · refine R_iconst 0 rfl rfl ?_
          exact R_iret rfl rfl rfl ⟨rfl, _, rfl, by rw [show (0 : Int32).toInt = 0 from rfl]; omega⟩
        · exfalso; omega
    · exfalso; omega
abbrev q_X9_placeIn (h : PH) (a0 : Int32) : Option PV → PH → Prop := fun r h' => h = h' ∧ ∃ z : Int32, r = some (.inl z) ∧ (((-1) ≤ z.toInt ∧ z.toInt ≤ 5))
set_option maxHeartbeats 4000000 in
set_option maxRecDepth 100000 in
theorem k_X9_placeIn (h : PH) (hI : INV h) (a0 : Int32) : CALL d_X9_placeIn [.inr (.inr (.inl 96)), .inl a0] h (q_X9_placeIn h a0) := by
  show RUN d_X9_placeIn 0 [(0, .inr (.inr (.inl 96))), (1, .inl a0)] [] h _
  have b1 := i_rng a0
  refine R_iconst 0 rfl rfl ?_
  refine R_istore_n (k := 2) rfl [(2, .inl 0), (0, .inr (.inr (.inl 96))), (1, .inl a0)] rfl rfl (by decide) ?_
  have lp3 : ∀ (n2 : Nat) (x4 : Int32), 0 ≤ x4.toInt ∧ x4.toInt ≤ 2147483647 → (2147483647 - x4.toInt).toNat < n2 → RUN d_X9_placeIn 2 [(2, .inl x4), (0, .inr (.inr (.inl 96))), (1, .inl a0)] [] h (q_X9_placeIn h a0) := by
    intro n2
    induction n2 with
    | zero => intro x4 m6 hz; exact absurd hz (Nat.not_lt_zero _)
    | succ n2 ih5 =>
      intro x4 m6 hz
      refine R_iload_n (k := 2) rfl rfl rfl ?_
      refine R_aload_n (k := 0) rfl rfl rfl ?_
      refine R_callV (v := .inr (.inr (.inl 96))) (As := []) (rest := [.inl x4]) rfl mt_9_i133 pp_X9_hands (by decide) rfl rfl rfl (Nat.le_of_ble_eq_true rfl) (Nat.le_of_ble_eq_true rfl) ((k_X9_hands h hI).mono (fun r7 h8 p9 => ?_))
      obtain ⟨rfl, x10, rfl, q11⟩ := p9
      show RUN d_X9_placeIn 7 [(2, .inl x4), (0, .inr (.inr (.inl 96))), (1, .inl a0)] [.inl x10, .inl x4] h _
      refine N_icmp_ge (a := x4.toInt) (b := x10.toInt) 28 rfl rfl rfl rfl (fun c12 => ?_) (fun c12 => ?_)
      · refine R_iconst (-1) rfl rfl ?_
        exact R_iret rfl rfl rfl ⟨rfl, _, rfl, by rw [show ((-1) : Int32).toInt = (-1) from rfl]; omega⟩
      · refine R_aload_n (k := 0) rfl rfl rfl ?_
        refine R_getf_r (j := 17) rfl ft_9_40 sh_96 rfl ?_
        refine R_iload_n (k := 2) rfl rfl rfl ?_
        refine R_iald rfl sh_105 ⟨by omega, by omega⟩ ?_
        refine N_bd (lo := 0) (hi := 5) (hI.1 105 _) (fun x13 q14 => ?_)
        refine R_iload_n (k := 1) rfl rfl rfl ?_
        refine N_icmp_ne (a := x13.toInt) (b := a0.toInt) 22 rfl rfl rfl rfl (fun c15 => ?_) (fun c15 => ?_)
        · refine N_iinc (a := x4.toInt) (c := 1) (fun w => [(2, .inl w), (0, .inr (.inr (.inl 96))), (1, .inl a0)]) rfl rfl (fun _ => rfl) (by decide) rfl (by decide) (by omega) (fun x16 q17 => ?_)
          refine R_goto 2 rfl rfl ?_
          exact RUN_weak (psub_cons rfl (psub_cons rfl (psub_cons rfl (psub_nil _)))) (ih5 x16 (by omega) (by omega))
        · refine R_iload_n (k := 2) rfl rfl rfl ?_
          exact R_iret rfl rfl rfl ⟨rfl, _, rfl, by omega⟩
  exact lp3 _ (0 : Int32) (by decide) (Nat.lt_succ_self _)
abbrev q_X9_keepsPair (h : PH) (a0 : Int32) : Option PV → PH → Prop := fun r h' => h = h' ∧ ∃ z : Int32, r = some (.inl z) ∧ ((z.toInt = 1) ∨ (z.toInt = 0))
set_option maxHeartbeats 4000000 in
set_option maxRecDepth 100000 in
theorem k_X9_keepsPair (h : PH) (hI : INV h) (a0 : Int32) (h0a : 0 ≤ a0.toInt ∧ a0.toInt ≤ 4) : CALL d_X9_keepsPair [.inr (.inr (.inl 96)), .inl a0] h (q_X9_keepsPair h a0) := by
  show RUN d_X9_keepsPair 0 [(0, .inr (.inr (.inl 96))), (1, .inl a0)] [] h _
  refine R_aload_n (k := 0) rfl rfl rfl ?_
  refine R_aload_n (k := 0) rfl rfl rfl ?_
  refine R_getf_r (j := 1) rfl ft_9_9 sh_96 rfl ?_
  refine R_bipush 23 rfl rfl ?_
  refine R_iconst 3 rfl rfl ?_
  refine R_iload_n (k := 1) rfl rfl rfl ?_
  refine N_imul (a := 3) (b := a0.toInt) rfl (by decide) rfl (by omega) (fun x1 q2 => ?_)
  refine N_iadd (a := 23) (b := x1.toInt) rfl (by decide) rfl (by omega) (fun x3 q4 => ?_)
  refine R_iald rfl sh_97 ⟨by omega, by omega⟩ ?_
  refine N_any (fun x5 => ?_)
  refine R_callV (v := .inr (.inr (.inl 96))) (As := [.inl x5]) (rest := []) rfl mt_9_i394 pp_X9_placeIn (by decide) rfl rfl rfl (Nat.le_of_ble_eq_true rfl) (Nat.le_of_ble_eq_true rfl) ((k_X9_placeIn h hI x5).mono (fun r6 h7 p8 => ?_))
  obtain ⟨rfl, x9, rfl, q10⟩ := p8
  show RUN d_X9_keepsPair 15 [(0, .inr (.inr (.inl 96))), (1, .inl a0)] [.inl x9] h _
  refine R_aload_n (k := 0) rfl rfl rfl ?_
  refine R_aload_n (k := 0) rfl rfl rfl ?_
  refine R_getf_r (j := 1) rfl ft_9_9 sh_96 rfl ?_
  refine R_bipush 23 rfl rfl ?_
  refine R_iconst 3 rfl rfl ?_
  refine R_iload_n (k := 1) rfl rfl rfl ?_
  refine N_imul (a := 3) (b := a0.toInt) rfl (by decide) rfl (by omega) (fun x11 q12 => ?_)
  refine N_iadd (a := 23) (b := x11.toInt) rfl (by decide) rfl (by omega) (fun x13 q14 => ?_)
  refine R_iconst 1 rfl rfl ?_
  refine N_iadd (a := x13.toInt) (b := 1) rfl rfl (by decide) (by omega) (fun x15 q16 => ?_)
  refine R_iald rfl sh_97 ⟨by omega, by omega⟩ ?_
  refine N_any (fun x17 => ?_)
  refine R_callV (v := .inr (.inr (.inl 96))) (As := [.inl x17]) (rest := [.inl x9]) rfl mt_9_i394 pp_X9_placeIn (by decide) rfl rfl rfl (Nat.le_of_ble_eq_true rfl) (Nat.le_of_ble_eq_true rfl) ((k_X9_placeIn h hI x17).mono (fun r18 h19 p20 => ?_))
  obtain ⟨rfl, x21, rfl, q22⟩ := p20
  show RUN d_X9_keepsPair 32 [(0, .inr (.inr (.inl 96))), (1, .inl a0)] [.inl x21, .inl x9] h _
  refine N_isub (a := x9.toInt) (b := x21.toInt) rfl rfl rfl (by omega) (fun x23 q24 => ?_)
  refine R_nat (b := 2) rfl mt_9_i397 rfl ⟨by decide, by decide, Nat.le_of_ble_eq_true rfl⟩ ?_
  refine N_any (fun x25 => ?_)
  refine R_istore_n (k := 2) rfl [(2, .inl x25), (0, .inr (.inr (.inl 96))), (1, .inl a0)] rfl rfl (by decide) ?_
  refine R_iload_n (k := 2) rfl rfl rfl ?_
  refine R_iconst 1 rfl rfl ?_
  refine N_icmp_ne (a := x25.toInt) (b := 1) 46 rfl rfl rfl (by decide) (fun c26 => ?_) (fun c26 => ?_)
  · refine R_iconst 0 rfl rfl ?_
    refine R_aload_n (k := 0) rfl rfl rfl ?_
    refine R_getf_r (j := 1) rfl ft_9_9 sh_96 rfl ?_
    refine R_bipush 23 rfl rfl ?_
    refine R_iconst 3 rfl rfl ?_
    refine R_iload_n (k := 1) rfl rfl rfl ?_
    refine N_imul (a := 3) (b := a0.toInt) rfl (by decide) rfl (by omega) (fun x27 q28 => ?_)
    refine N_iadd (a := 23) (b := x27.toInt) rfl (by decide) rfl (by omega) (fun x29 q30 => ?_)
    refine R_iconst 2 rfl rfl ?_
    refine N_iadd (a := x29.toInt) (b := 2) rfl rfl (by decide) (by omega) (fun x31 q32 => ?_)
    refine R_iald rfl sh_97 ⟨by omega, by omega⟩ ?_
    refine N_any (fun x33 => ?_)
    refine R_iconst 1 rfl rfl ?_
    refine N_icmp_ne (a := x33.toInt) (b := 1) 68 rfl rfl rfl (by decide) (fun c34 => ?_) (fun c34 => ?_)
    · refine R_iconst 0 rfl rfl ?_
      refine N_icmp_ne (a := 0) (b := 0) 76 rfl rfl (by decide) (by decide) (fun c35 => ?_) (fun c35 => ?_)
      · exfalso; omega
      · refine R_iconst 1 rfl rfl ?_
        refine R_goto 77 rfl rfl ?_
        exact R_iret rfl rfl rfl ⟨rfl, _, rfl, by rw [show (1 : Int32).toInt = 1 from rfl]; omega⟩
    · refine R_iconst 1 rfl rfl ?_
      refine R_goto 69 rfl rfl ?_
      refine N_icmp_ne (a := 0) (b := 1) 76 rfl rfl (by decide) (by decide) (fun c36 => ?_) (fun c36 => ?_)
      · refine R_iconst 0 rfl rfl ?_
        exact R_iret rfl rfl rfl ⟨rfl, _, rfl, by rw [show (0 : Int32).toInt = 0 from rfl]; omega⟩
      · exfalso; omega
  · refine R_iconst 1 rfl rfl ?_
    refine R_goto 47 rfl rfl ?_
    refine R_aload_n (k := 0) rfl rfl rfl ?_
    refine R_getf_r (j := 1) rfl ft_9_9 sh_96 rfl ?_
    refine R_bipush 23 rfl rfl ?_
    refine R_iconst 3 rfl rfl ?_
    refine R_iload_n (k := 1) rfl rfl rfl ?_
    refine N_imul (a := 3) (b := a0.toInt) rfl (by decide) rfl (by omega) (fun x37 q38 => ?_)
    refine N_iadd (a := 23) (b := x37.toInt) rfl (by decide) rfl (by omega) (fun x39 q40 => ?_)
    refine R_iconst 2 rfl rfl ?_
    refine N_iadd (a := x39.toInt) (b := 2) rfl rfl (by decide) (by omega) (fun x41 q42 => ?_)
    refine R_iald rfl sh_97 ⟨by omega, by omega⟩ ?_
    refine N_any (fun x43 => ?_)
    refine R_iconst 1 rfl rfl ?_
    refine N_icmp_ne (a := x43.toInt) (b := 1) 68 rfl rfl rfl (by decide) (fun c44 => ?_) (fun c44 => ?_)
    · refine R_iconst 0 rfl rfl ?_
      refine N_icmp_ne (a := 1) (b := 0) 76 rfl rfl (by decide) (by decide) (fun c45 => ?_) (fun c45 => ?_)
      · refine R_iconst 0 rfl rfl ?_
        exact R_iret rfl rfl rfl ⟨rfl, _, rfl, by rw [show (0 : Int32).toInt = 0 from rfl]; omega⟩
      · exfalso; omega
    · refine R_iconst 1 rfl rfl ?_
      refine R_goto 69 rfl rfl ?_
      refine N_icmp_ne (a := 1) (b := 1) 76 rfl rfl (by decide) (by decide) (fun c46 => ?_) (fun c46 => ?_)
      · exfalso; omega
      · refine R_iconst 1 rfl rfl ?_
        refine R_goto 77 rfl rfl ?_
        exact R_iret rfl rfl rfl ⟨rfl, _, rfl, by rw [show (1 : Int32).toInt = 1 from rfl]; omega⟩
abbrev q_X1_hasSecond (h : PH) (a0 : Int32) : Option PV → PH → Prop := fun r h' => h = h' ∧ ∃ z : Int32, r = some (.inl z) ∧ ((z.toInt = 0 ∧ a0.toInt ≤ (-1)) ∨ (z.toInt = 0 ∧ 0 ≤ a0.toInt ∧ (h.1 17 0).toInt ≤ a0.toInt + 0) ∨ (z.toInt = 1 ∧ 0 ≤ a0.toInt ∧ a0.toInt ≤ 59 ∧ 1 ≤ (h.1 17 0).toInt ∧ (h.1 17 0).toInt ≤ 60 ∧ a0.toInt ≤ (h.1 17 0).toInt + (-1)))
set_option maxHeartbeats 4000000 in
set_option maxRecDepth 100000 in
theorem k_X1_hasSecond (h : PH) (hI : INV h) (a0 : Int32) : CALL d_X1_hasSecond [.inr (.inr (.inl 16)), .inl a0] h (q_X1_hasSecond h a0) := by
  show RUN d_X1_hasSecond 0 [(0, .inr (.inr (.inl 16))), (1, .inl a0)] [] h _
  have b1 := i_rng a0
  refine R_iload_n (k := 1) rfl rfl rfl ?_
  refine N_if_lt (a := a0.toInt) 18 rfl rfl rfl (fun c2 => ?_) (fun c2 => ?_)
  · refine R_iconst 0 rfl rfl ?_
    exact R_iret rfl rfl rfl ⟨rfl, _, rfl, by rw [show (0 : Int32).toInt = 0 from rfl]; omega⟩
  · refine R_iload_n (k := 1) rfl rfl rfl ?_
    refine R_aload_n (k := 0) rfl rfl rfl ?_
    refine R_getf_r (j := 0) rfl ft_1_9 sh_16 rfl ?_
    refine R_iconst 0 rfl rfl ?_
    refine R_iald rfl sh_17 (by decide) ?_
    have b3 : (0 : Int) ≤ (h.1 17 0).toInt ∧ (h.1 17 0).toInt ≤ 60 := hI.1 17 0
    show RUN d_X1_hasSecond 11 [(0, .inr (.inr (.inl 16))), (1, .inl a0)] [.inl (h.1 17 0), .inl a0] h _
    refine N_icmp_ge (a := a0.toInt) (b := (h.1 17 0).toInt) 18 rfl rfl rfl rfl (fun c4 => ?_) (fun c4 => ?_)
    · refine R_iconst 0 rfl rfl ?_
      exact R_iret rfl rfl rfl ⟨rfl, _, rfl, by rw [show (0 : Int32).toInt = 0 from rfl]; omega⟩
    · refine R_iconst 1 rfl rfl ?_
      refine R_goto 19 rfl rfl ?_
      exact R_iret rfl rfl rfl ⟨rfl, _, rfl, by rw [show (1 : Int32).toInt = 1 from rfl]; omega⟩
abbrev q_X2_clearFor (h : PH)  : Option PV → PH → Prop := fun r h' => INV h' ∧ FR [70] h h' ∧ r = none
set_option maxHeartbeats 4000000 in
set_option maxRecDepth 100000 in
theorem k_X2_clearFor (h : PH) (hI : INV h)  : CALL d_X2_clearFor [.inr (.inr (.inl 70)), .inr (.inr (.inl 16))] h (q_X2_clearFor h) := by
  show RUN d_X2_clearFor 0 [(0, .inr (.inr (.inl 70))), (1, .inr (.inr (.inl 16)))] [] h _
  have fr : FR [70] h h := FR.rf _ _
  refine R_aload_n (k := 0) rfl rfl rfl ?_
  refine R_iconst 0 rfl rfl ?_
  refine K_putf (j := 4) (lo := 0) (hi' := 6) rfl ft_2_25 sh_70 rfl hI (by decide) rfl (by decide) fr (by decide) (fun h1 g2 hI fr => ?_)
  have s3 : (h1.1 70 4).toInt = 0 := by rw [g2, wI_is]; rfl
  refine R_aload_n (k := 0) rfl rfl rfl ?_
  refine R_aload_n (k := 1) rfl rfl rfl ?_
  refine R_getf_r (j := 0) rfl ft_2_44 sh_16 rfl ?_
  refine R_iconst 1 rfl rfl ?_
  refine R_iald rfl sh_17 (by decide) ?_
  show RUN d_X2_clearFor 12 [(0, .inr (.inr (.inl 70))), (1, .inr (.inr (.inl 16)))] [.inl (h1.1 17 1), .inr (.inr (.inl 70))] h1 _
  refine K_putf (j := 5) (lo := (-2147483648)) (hi' := 2147483647) rfl ft_2_29 sh_70 rfl hI (by decide) rfl (i_rng _) fr (by decide) (fun h4 g5 hI fr => ?_)
  have s6 : (h4.1 70 4).toInt = (h1.1 70 4).toInt := by rw [g5, wI_at (by decide)]
  have s7 : (h4.1 17 1).toInt = (h1.1 17 1).toInt := by rw [g5, wI_ne _ _ _ (by decide)]
  have s8 : (h4.1 70 5).toInt = (h1.1 17 1).toInt := by rw [g5, wI_is]
  refine R_aload_n (k := 0) rfl rfl rfl ?_
  refine R_aload_n (k := 1) rfl rfl rfl ?_
  refine R_getf_r (j := 0) rfl ft_2_44 sh_16 rfl ?_
  refine R_iconst 2 rfl rfl ?_
  refine R_iald rfl sh_17 (by decide) ?_
  show RUN d_X2_clearFor 22 [(0, .inr (.inr (.inl 70))), (1, .inr (.inr (.inl 16)))] [.inl (h4.1 17 2), .inr (.inr (.inl 70))] h4 _
  refine K_putf (j := 6) (lo := (-2147483648)) (hi' := 2147483647) rfl ft_2_32 sh_70 rfl hI (by decide) rfl (i_rng _) fr (by decide) (fun h9 g10 hI fr => ?_)
  have s11 : (h9.1 70 4).toInt = (h4.1 70 4).toInt := by rw [g10, wI_at (by decide)]
  have s12 : (h9.1 17 1).toInt = (h4.1 17 1).toInt := by rw [g10, wI_ne _ _ _ (by decide)]
  have s13 : (h9.1 70 5).toInt = (h4.1 70 5).toInt := by rw [g10, wI_at (by decide)]
  have s14 : (h9.1 17 2).toInt = (h4.1 17 2).toInt := by rw [g10, wI_ne _ _ _ (by decide)]
  have s15 : (h9.1 70 6).toInt = (h4.1 17 2).toInt := by rw [g10, wI_is]
  refine R_aload_n (k := 0) rfl rfl rfl ?_
  refine R_aload_n (k := 1) rfl rfl rfl ?_
  refine R_getf_r (j := 0) rfl ft_2_44 sh_16 rfl ?_
  refine R_iconst 3 rfl rfl ?_
  refine R_iald rfl sh_17 (by decide) ?_
  show RUN d_X2_clearFor 32 [(0, .inr (.inr (.inl 70))), (1, .inr (.inr (.inl 16)))] [.inl (h9.1 17 3), .inr (.inr (.inl 70))] h9 _
  refine K_putf (j := 7) (lo := (-2147483648)) (hi' := 2147483647) rfl ft_2_35 sh_70 rfl hI (by decide) rfl (i_rng _) fr (by decide) (fun h16 g17 hI fr => ?_)
  have s18 : (h16.1 70 4).toInt = (h9.1 70 4).toInt := by rw [g17, wI_at (by decide)]
  have s19 : (h16.1 17 1).toInt = (h9.1 17 1).toInt := by rw [g17, wI_ne _ _ _ (by decide)]
  have s20 : (h16.1 70 5).toInt = (h9.1 70 5).toInt := by rw [g17, wI_at (by decide)]
  have s21 : (h16.1 17 2).toInt = (h9.1 17 2).toInt := by rw [g17, wI_ne _ _ _ (by decide)]
  have s22 : (h16.1 70 6).toInt = (h9.1 70 6).toInt := by rw [g17, wI_at (by decide)]
  have s23 : (h16.1 17 3).toInt = (h9.1 17 3).toInt := by rw [g17, wI_ne _ _ _ (by decide)]
  have s24 : (h16.1 70 7).toInt = (h9.1 17 3).toInt := by rw [g17, wI_is]
  exact R_vret rfl rfl ⟨hI, fr, rfl⟩
abbrev q_X2_join (h : PH) (a1 : Int32) : Option PV → PH → Prop := fun r h' => INV h' ∧ FR [70, 71, 72, 73] h h' ∧ r = none
set_option maxHeartbeats 4000000 in
set_option maxRecDepth 100000 in
theorem k_X2_join (h : PH) (hI : INV h) (a1 : Int32) (h1a : 0 ≤ a1.toInt ∧ a1.toInt ≤ 7) : CALL d_X2_join [.inr (.inr (.inl 70)), .inr (.inr (.inl 16)), .inl a1] h (q_X2_join h a1) := by
  show RUN d_X2_join 0 [(0, .inr (.inr (.inl 70))), (1, .inr (.inr (.inl 16))), (2, .inl a1)] [] h _
  have fr : FR [70, 71, 72, 73] h h := FR.rf _ _
  refine R_aload_n (k := 0) rfl rfl rfl ?_
  refine R_getf_i (j := 4) rfl ft_2_25 sh_70 rfl ?_
  have b1 : (0 : Int) ≤ (h.1 70 4).toInt ∧ (h.1 70 4).toInt ≤ 6 := hI.1 70 4
  refine R_bipush 6 rfl rfl ?_
  refine N_icmp_ge (a := (h.1 70 4).toInt) (b := 6) 72 rfl rfl rfl (by decide) (fun c2 => ?_) (fun c2 => ?_)
  · exact R_vret rfl rfl ⟨hI, fr, rfl⟩
  · refine R_aload_n (k := 1) rfl rfl rfl ?_
    refine R_iload_n (k := 2) rfl rfl rfl ?_
    refine R_callV (v := .inr (.inr (.inl 16))) (As := [.inl a1]) (rest := []) rfl mt_2_i49 pp_X1_hasHand (by decide) rfl rfl rfl (Nat.le_of_ble_eq_true rfl) (Nat.le_of_ble_eq_true rfl) ((k_X1_hasHand h hI a1).mono (fun r3 h4 p5 => ?_))
    obtain ⟨rfl, x6, rfl, q7 | q7 | q7⟩ := p5
    · exfalso; omega
    · have b8 : (0 : Int) ≤ (h.1 17 5).toInt ∧ (h.1 17 5).toInt ≤ 6 := hI.1 17 5
      show RUN d_X2_join 14 [(0, .inr (.inr (.inl 70))), (1, .inr (.inr (.inl 16))), (2, .inl a1)] [.inl x6] h _
      refine N_if_eq (a := x6.toInt) 72 rfl rfl rfl (fun c9 => ?_) (fun c9 => ?_)
      · exact R_vret rfl rfl ⟨hI, fr, rfl⟩
      · exfalso; omega
    · have b10 : (0 : Int) ≤ (h.1 17 5).toInt ∧ (h.1 17 5).toInt ≤ 6 := hI.1 17 5
      show RUN d_X2_join 14 [(0, .inr (.inr (.inl 70))), (1, .inr (.inr (.inl 16))), (2, .inl a1)] [.inl x6] h _
      refine N_if_eq (a := x6.toInt) 72 rfl rfl rfl (fun c11 => ?_) (fun c11 => ?_)
      · exfalso; omega
      · refine R_aload_n (k := 0) rfl rfl rfl ?_
        refine R_getf_r (j := 0) rfl ft_2_9 sh_70 rfl ?_
        refine R_aload_n (k := 0) rfl rfl rfl ?_
        refine R_getf_i (j := 4) rfl ft_2_25 sh_70 rfl ?_
        refine R_aload_n (k := 1) rfl rfl rfl ?_
        refine R_getf_r (j := 2) rfl ft_2_53 sh_16 rfl ?_
        refine R_iload_n (k := 2) rfl rfl rfl ?_
        refine R_iald rfl sh_19 ⟨by omega, by omega⟩ ?_
        refine N_any (fun x12 => ?_)
        refine K_iast (a := (h.1 70 4).toInt) (lo := (-2147483648)) (hi' := 2147483647) rfl sh_71 rfl ⟨by omega, by omega⟩ hI (by decide) rfl (i_rng _) fr (by decide) (fun h13 g14 hI fr => ?_)
        have s15 : (h13.1 70 4).toInt = (h.1 70 4).toInt := by rw [g14, wI_ne _ _ _ (by decide)]
        have s16 : (h13.1 17 5).toInt = (h.1 17 5).toInt := by rw [g14, wI_ne _ _ _ (by decide)]
        refine R_aload_n (k := 0) rfl rfl rfl ?_
        refine R_getf_r (j := 1) rfl ft_2_15 sh_70 rfl ?_
        refine R_aload_n (k := 0) rfl rfl rfl ?_
        refine R_getf_i (j := 4) rfl ft_2_25 sh_70 rfl ?_
        refine R_aload_n (k := 1) rfl rfl rfl ?_
        refine R_getf_r (j := 3) rfl ft_2_54 sh_16 rfl ?_
        refine R_iload_n (k := 2) rfl rfl rfl ?_
        refine R_iald rfl sh_20 ⟨by omega, by omega⟩ ?_
        refine N_any (fun x17 => ?_)
        refine K_iast (a := (h13.1 70 4).toInt) (lo := (-2147483648)) (hi' := 2147483647) rfl sh_72 rfl ⟨by omega, by omega⟩ hI (by decide) rfl (i_rng _) fr (by decide) (fun h18 g19 hI fr => ?_)
        have s20 : (h18.1 70 4).toInt = (h13.1 70 4).toInt := by rw [g19, wI_ne _ _ _ (by decide)]
        have s21 : (h18.1 17 5).toInt = (h13.1 17 5).toInt := by rw [g19, wI_ne _ _ _ (by decide)]
        refine R_aload_n (k := 0) rfl rfl rfl ?_
        refine R_getf_r (j := 2) rfl ft_2_18 sh_70 rfl ?_
        refine R_aload_n (k := 0) rfl rfl rfl ?_
        refine R_getf_i (j := 4) rfl ft_2_25 sh_70 rfl ?_
        refine R_aload_n (k := 1) rfl rfl rfl ?_
        refine R_getf_r (j := 4) rfl ft_2_55 sh_16 rfl ?_
        refine R_iload_n (k := 2) rfl rfl rfl ?_
        refine R_lald rfl sh_21 ⟨by omega, by omega⟩ ?_
        refine N_anyL (fun w22 => ?_)
        refine K_last (a := (h18.1 70 4).toInt) rfl sh_73 rfl ⟨by omega, by omega⟩ hI fr (by decide) (fun h23 g24 hI fr => ?_)
        have s25 : (h23.1 70 4).toInt = (h18.1 70 4).toInt := by rw [g24, wL_fst]
        have s26 : (h23.1 17 5).toInt = (h18.1 17 5).toInt := by rw [g24, wL_fst]
        refine R_aload_n (k := 0) rfl rfl rfl ?_
        refine R_dup_r rfl ?_
        refine R_getf_i (j := 4) rfl ft_2_25 sh_70 rfl ?_
        refine R_iconst 1 rfl rfl ?_
        refine N_iadd (a := (h23.1 70 4).toInt) (b := 1) rfl rfl (by decide) (by omega) (fun x27 q28 => ?_)
        refine K_putf (j := 4) (lo := 0) (hi' := 6) rfl ft_2_25 sh_70 rfl hI (by decide) rfl (by omega) fr (by decide) (fun h29 g30 hI fr => ?_)
        have s31 : (h29.1 17 5).toInt = (h23.1 17 5).toInt := by rw [g30, wI_ne _ _ _ (by decide)]
        have s32 : (h29.1 70 4).toInt = x27.toInt := by rw [g30, wI_is]
        exact R_vret rfl rfl ⟨hI, fr, rfl⟩
abbrev q_X8_lineAsNow (h : PH)  : Option PV → PH → Prop := fun r h' => INV h' ∧ FR [70, 71, 72, 73] h h' ∧ r = none
set_option maxHeartbeats 4000000 in
set_option maxRecDepth 100000 in
theorem k_X8_lineAsNow (h : PH) (hI : INV h)  : CALL d_X8_lineAsNow [.inr (.inr (.inl 0))] h (q_X8_lineAsNow h) := by
  show RUN d_X8_lineAsNow 0 [(0, .inr (.inr (.inl 0)))] [] h _
  have fr : FR [70, 71, 72, 73] h h := FR.rf _ _
  refine R_aload_n (k := 0) rfl rfl rfl ?_
  refine R_getf_r (j := 7) rfl ft_8_49 sh_0 rfl ?_
  refine R_aload_n (k := 0) rfl rfl rfl ?_
  refine R_getf_r (j := 3) rfl ft_8_28 sh_0 rfl ?_
  refine R_callV (v := .inr (.inr (.inl 70))) (As := [.inr (.inr (.inl 16))]) (rest := []) rfl mt_8_i426 pp_X2_clearFor (by decide) rfl rfl rfl (Nat.le_of_ble_eq_true rfl) (Nat.le_of_ble_eq_true rfl) ((k_X2_clearFor h hI).mono (fun r1 h2 p3 => ?_))
  obtain ⟨hJ, fj, rfl⟩ := p3
  have f4 := fj
  have fr := fr.trans fj (by decide)
  have hI := hJ
  show RUN d_X8_lineAsNow 11 [(0, .inr (.inr (.inl 0)))] [] h2 _
  refine R_iconst 0 rfl rfl ?_
  refine R_istore_n (k := 1) rfl [(1, .inl 0), (0, .inr (.inr (.inl 0)))] rfl rfl (by decide) ?_
  have lp6 : ∀ (n5 : Nat) (h7 : PH) (x9 : Int32), INV h7 → FR [70, 71, 72, 73] h h7 → FR [70, 71, 72, 73] h2 h7 → 0 ≤ x9.toInt ∧ x9.toInt ≤ 2147483647 → (2147483647 - x9.toInt).toNat < n5 → RUN d_X8_lineAsNow 13 [(1, .inl x9), (0, .inr (.inr (.inl 0)))] [] h7 (q_X8_lineAsNow h) := by
    intro n5
    induction n5 with
    | zero => intro h7 x9 m11 m12 m13 m14 hz; exact absurd hz (Nat.not_lt_zero _)
    | succ n5 ih10 =>
      intro h7 x9 hI fr fl8 m14 hz
      refine R_iload_n (k := 1) rfl rfl rfl ?_
      refine R_aload_n (k := 0) rfl rfl rfl ?_
      refine R_getf_r (j := 3) rfl ft_8_28 sh_0 rfl ?_
      refine R_getf_r (j := 0) rfl ft_8_109 sh_16 rfl ?_
      refine R_iconst 5 rfl rfl ?_
      refine R_iald rfl sh_17 (by decide) ?_
      have b15 : (0 : Int) ≤ (h7.1 17 5).toInt ∧ (h7.1 17 5).toInt ≤ 6 := hI.1 17 5
      show RUN d_X8_lineAsNow 23 [(1, .inl x9), (0, .inr (.inr (.inl 0)))] [.inl (h7.1 17 5), .inl x9] h7 _
      refine N_icmp_ge (a := x9.toInt) (b := (h7.1 17 5).toInt) 44 rfl rfl rfl rfl (fun c16 => ?_) (fun c16 => ?_)
      · exact R_vret rfl rfl ⟨hI, fr, rfl⟩
      · refine R_aload_n (k := 0) rfl rfl rfl ?_
        refine R_getf_r (j := 7) rfl ft_8_49 sh_0 rfl ?_
        refine R_aload_n (k := 0) rfl rfl rfl ?_
        refine R_getf_r (j := 3) rfl ft_8_28 sh_0 rfl ?_
        refine R_iload_n (k := 1) rfl rfl rfl ?_
        refine R_callV (v := .inr (.inr (.inl 70))) (As := [.inr (.inr (.inl 16)), .inl x9]) (rest := []) rfl mt_8_i429 pp_X2_join (by decide) rfl rfl rfl (Nat.le_of_ble_eq_true rfl) (Nat.le_of_ble_eq_true rfl) ((k_X2_join h7 hI x9 (by omega)).mono (fun r17 h18 p19 => ?_))
        obtain ⟨hJ, fj, rfl⟩ := p19
        have f20 := fj
        have fr := fr.trans fj (by decide)
        have hI := hJ
        have fl8 : FR [70, 71, 72, 73] h2 h18 := fl8.trans fj (by decide)
        have s21 : (h18.1 17 5).toInt = (h7.1 17 5).toInt := by rw [(f20 17 (by decide)).1]
        show RUN d_X8_lineAsNow 38 [(1, .inl x9), (0, .inr (.inr (.inl 0)))] [] h18 _
        refine N_iinc (a := x9.toInt) (c := 1) (fun w => [(1, .inl w), (0, .inr (.inr (.inl 0)))]) rfl rfl (fun _ => rfl) (by decide) rfl (by decide) (by omega) (fun x22 q23 => ?_)
        refine R_goto 13 rfl rfl ?_
        exact RUN_weak (psub_cons rfl (psub_cons rfl (psub_nil _))) (ih10 h18 x22 hI fr fl8 (by omega) (by omega))
  exact lp6 _ h2 (0 : Int32) hI fr (FR.rf _ _) (by decide) (Nat.lt_succ_self _)
abbrev q_X2_loadAt (h : PH) (a0 : Int32) : Option PV → PH → Prop := fun r h' => h = h' ∧ ∃ z : Int32, r = some (.inl z) ∧ ((True))
set_option maxHeartbeats 4000000 in
set_option maxRecDepth 100000 in
theorem k_X2_loadAt (h : PH) (hI : INV h) (a0 : Int32) (h0a : 0 ≤ a0.toInt ∧ a0.toInt ≤ 6) : CALL d_X2_loadAt [.inr (.inr (.inl 70)), .inl a0] h (q_X2_loadAt h a0) := by
  show RUN d_X2_loadAt 0 [(0, .inr (.inr (.inl 70))), (1, .inl a0)] [] h _
  refine R_aload_n (k := 0) rfl rfl rfl ?_
  refine R_getf_i (j := 6) rfl ft_2_32 sh_70 rfl ?_
  refine R_istore_n (k := 2) rfl [(2, .inl (h.1 70 6)), (0, .inr (.inr (.inl 70))), (1, .inl a0)] rfl rfl (by decide) ?_
  refine R_iconst 0 rfl rfl ?_
  refine R_istore_n (k := 3) rfl [(3, .inl 0), (2, .inl (h.1 70 6)), (0, .inr (.inr (.inl 70))), (1, .inl a0)] rfl rfl (by decide) ?_
  have lp2 : ∀ (n1 : Nat) (x3 : Int32) (x4 : Int32), 0 ≤ x4.toInt ∧ x4.toInt ≤ 2147483647 → (2147483647 - x4.toInt).toNat < n1 → RUN d_X2_loadAt 7 [(3, .inl x4), (2, .inl x3), (0, .inr (.inr (.inl 70))), (1, .inl a0)] [] h (q_X2_loadAt h a0) := by
    intro n1
    induction n1 with
    | zero => intro x3 x4 m6 hz; exact absurd hz (Nat.not_lt_zero _)
    | succ n1 ih5 =>
      intro x3 x4 m6 hz
      refine R_iload_n (k := 3) rfl rfl rfl ?_
      refine R_iload_n (k := 1) rfl rfl rfl ?_
      refine N_icmp_ge (a := x4.toInt) (b := a0.toInt) 39 rfl rfl rfl rfl (fun c7 => ?_) (fun c7 => ?_)
      · refine R_iload_n (k := 2) rfl rfl rfl ?_
        exact R_iret rfl rfl rfl ⟨rfl, _, rfl, trivial⟩
      · refine R_iload_n (k := 3) rfl rfl rfl ?_
        refine R_aload_n (k := 0) rfl rfl rfl ?_
        refine R_getf_i (j := 4) rfl ft_2_25 sh_70 rfl ?_
        have b8 : (0 : Int) ≤ (h.1 70 4).toInt ∧ (h.1 70 4).toInt ≤ 6 := hI.1 70 4
        refine N_icmp_ge (a := x4.toInt) (b := (h.1 70 4).toInt) 39 rfl rfl rfl rfl (fun c9 => ?_) (fun c9 => ?_)
        · refine R_iload_n (k := 2) rfl rfl rfl ?_
          exact R_iret rfl rfl rfl ⟨rfl, _, rfl, trivial⟩
        · refine R_iconst 0 rfl rfl ?_
          refine R_iload_n (k := 2) rfl rfl rfl ?_
          refine R_aload_n (k := 0) rfl rfl rfl ?_
          refine R_getf_r (j := 1) rfl ft_2_15 sh_70 rfl ?_
          refine R_iload_n (k := 3) rfl rfl rfl ?_
          refine R_iald rfl sh_72 ⟨by omega, by omega⟩ ?_
          refine N_any (fun x10 => ?_)
          have b11 := i_rng x3
          have b12 := i_rng x10
          refine R_isub rfl ?_
          refine N_any (fun x13 => ?_)
          refine N_max (a := 0) (b := x13.toInt) rfl mt_2_i56 (by decide) rfl ⟨by decide, by decide, Nat.le_of_ble_eq_true rfl⟩ (fun x14 q15 => ?_)
          refine R_istore_n (k := 2) rfl [(2, .inl x14), (3, .inl x4), (0, .inr (.inr (.inl 70))), (1, .inl a0)] rfl rfl (by decide) ?_
          refine N_iinc (a := x4.toInt) (c := 1) (fun w => [(3, .inl w), (2, .inl x14), (0, .inr (.inr (.inl 70))), (1, .inl a0)]) rfl rfl (fun _ => rfl) (by decide) rfl (by decide) (by omega) (fun x16 q17 => ?_)
          refine R_goto 7 rfl rfl ?_
          exact RUN_weak (psub_cons rfl (psub_cons rfl (psub_cons rfl (psub_cons rfl (psub_nil _))))) (ih5 x14 x16 (by omega) (by omega))
  exact lp2 _ (h.1 70 6) (0 : Int32) (by decide) (Nat.lt_succ_self _)
abbrev q_X2_poured (h : PH)  : Option PV → PH → Prop := fun r h' => h = h' ∧ ∃ z : Int32, r = some (.inl z) ∧ ((True))
set_option maxHeartbeats 4000000 in
set_option maxRecDepth 100000 in
theorem k_X2_poured (h : PH) (hI : INV h)  : CALL d_X2_poured [.inr (.inr (.inl 70))] h (q_X2_poured h) := by
  show RUN d_X2_poured 0 [(0, .inr (.inr (.inl 70)))] [] h _
  refine R_aload_n (k := 0) rfl rfl rfl ?_
  refine R_aload_n (k := 0) rfl rfl rfl ?_
  refine R_getf_i (j := 4) rfl ft_2_25 sh_70 rfl ?_
  have b1 : (0 : Int) ≤ (h.1 70 4).toInt ∧ (h.1 70 4).toInt ≤ 6 := hI.1 70 4
  refine R_callV (v := .inr (.inr (.inl 70))) (As := [.inl (h.1 70 4)]) (rest := []) rfl mt_2_i62 pp_X2_loadAt (by decide) rfl rfl rfl (Nat.le_of_ble_eq_true rfl) (Nat.le_of_ble_eq_true rfl) ((k_X2_loadAt h hI (h.1 70 4) (by omega)).mono (fun r2 h3 p4 => ?_))
  obtain ⟨rfl, x5, rfl, q6⟩ := p4
  show RUN d_X2_poured 8 [(0, .inr (.inr (.inl 70)))] [.inl x5] h _
  exact R_iret rfl rfl rfl ⟨rfl, _, rfl, trivial⟩
abbrev q_X2_begin (h : PH)  : Option PV → PH → Prop := fun r h' => INV h' ∧ FR [70, 74] h h' ∧ r = none
set_option maxHeartbeats 4000000 in
set_option maxRecDepth 100000 in
theorem k_X2_begin (h : PH) (hI : INV h)  : CALL d_X2_begin [.inr (.inr (.inl 70))] h (q_X2_begin h) := by
  show RUN d_X2_begin 0 [(0, .inr (.inr (.inl 70)))] [] h _
  have fr : FR [70, 74] h h := FR.rf _ _
  refine R_iconst 0 rfl rfl ?_
  refine R_istore_n (k := 1) rfl [(1, .inl 0), (0, .inr (.inr (.inl 70)))] rfl rfl (by decide) ?_
  have lp2 : ∀ (n1 : Nat) (h3 : PH) (x5 : Int32), INV h3 → FR [70, 74] h h3 → FR [70, 74] h h3 → 0 ≤ x5.toInt ∧ x5.toInt ≤ 2147483647 → (2147483647 - x5.toInt).toNat < n1 → RUN d_X2_begin 2 [(1, .inl x5), (0, .inr (.inr (.inl 70)))] [] h3 (q_X2_begin h) := by
    intro n1
    induction n1 with
    | zero => intro h3 x5 m7 m8 m9 m10 hz; exact absurd hz (Nat.not_lt_zero _)
    | succ n1 ih6 =>
      intro h3 x5 hI fr fl4 m10 hz
      refine R_iload_n (k := 1) rfl rfl rfl ?_
      refine R_bipush 6 rfl rfl ?_
      refine N_icmp_ge (a := x5.toInt) (b := 6) 21 rfl rfl rfl (by decide) (fun c11 => ?_) (fun c11 => ?_)
      · refine R_aload_n (k := 0) rfl rfl rfl ?_
        refine R_aload_n (k := 0) rfl rfl rfl ?_
        refine R_getf_i (j := 5) rfl ft_2_29 sh_70 rfl ?_
        refine K_putf (j := 8) (lo := (-2147483648)) (hi' := 2147483647) rfl ft_2_38 sh_70 rfl hI (by decide) rfl (i_rng _) fr (by decide) (fun h12 g13 hI fr => ?_)
        have fl4 : FR [70, 74] h h12 := by rw [g13]; exact FR_wI _ _ fl4 (by decide)
        have s14 : (h12.1 70 5).toInt = (h3.1 70 5).toInt := by rw [g13, wI_at (by decide)]
        have s15 : (h12.1 70 8).toInt = (h3.1 70 5).toInt := by rw [g13, wI_is]
        refine R_aload_n (k := 0) rfl rfl rfl ?_
        refine R_iconst 0 rfl rfl ?_
        refine K_putf (j := 9) (lo := (-2147483648)) (hi' := 2147483647) rfl ft_2_41 sh_70 rfl hI (by decide) rfl (by decide) fr (by decide) (fun h16 g17 hI fr => ?_)
        have fl4 : FR [70, 74] h h16 := by rw [g17]; exact FR_wI _ _ fl4 (by decide)
        have s18 : (h16.1 70 5).toInt = (h12.1 70 5).toInt := by rw [g17, wI_at (by decide)]
        have s19 : (h16.1 70 8).toInt = (h12.1 70 8).toInt := by rw [g17, wI_at (by decide)]
        have s20 : (h16.1 70 9).toInt = 0 := by rw [g17, wI_is]; rfl
        exact R_vret rfl rfl ⟨hI, fr, rfl⟩
      · refine R_aload_n (k := 0) rfl rfl rfl ?_
        refine R_getf_r (j := 3) rfl ft_2_22 sh_70 rfl ?_
        refine R_iload_n (k := 1) rfl rfl rfl ?_
        refine R_iconst 0 rfl rfl ?_
        refine K_iast (a := x5.toInt) (lo := (-2147483648)) (hi' := 2147483647) rfl sh_74 rfl ⟨by omega, by omega⟩ hI (by decide) rfl (by decide) fr (by decide) (fun h21 g22 hI fr => ?_)
        have fl4 : FR [70, 74] h h21 := by rw [g22]; exact FR_wI _ _ fl4 (by decide)
        refine N_iinc (a := x5.toInt) (c := 1) (fun w => [(1, .inl w), (0, .inr (.inr (.inl 70)))]) rfl rfl (fun _ => rfl) (by decide) rfl (by decide) (by omega) (fun x23 q24 => ?_)
        refine R_goto 2 rfl rfl ?_
        exact RUN_weak (psub_cons rfl (psub_cons rfl (psub_nil _))) (ih6 h21 x23 hI fr fl4 (by omega) (by omega))
  exact lp2 _ h (0 : Int32) hI fr (FR.rf _ _) (by decide) (Nat.lt_succ_self _)
abbrev q_X2_readyBits (h : PH)  : Option PV → PH → Prop := fun r h' => h = h' ∧ ∃ z : Int32, r = some (.inl z) ∧ ((True))
set_option maxHeartbeats 4000000 in
set_option maxRecDepth 100000 in
theorem k_X2_readyBits (h : PH) (hI : INV h)  : CALL d_X2_readyBits [.inr (.inr (.inl 70))] h (q_X2_readyBits h) := by
  show RUN d_X2_readyBits 0 [(0, .inr (.inr (.inl 70)))] [] h _
  refine R_iconst 0 rfl rfl ?_
  refine R_istore_n (k := 1) rfl [(1, .inl 0), (0, .inr (.inr (.inl 70)))] rfl rfl (by decide) ?_
  refine R_iconst 0 rfl rfl ?_
  refine R_istore_n (k := 2) rfl [(2, .inl 0), (1, .inl 0), (0, .inr (.inr (.inl 70)))] rfl rfl (by decide) ?_
  have lp2 : ∀ (n1 : Nat) (x3 : Int32) (x4 : Int32), 0 ≤ x4.toInt ∧ x4.toInt ≤ 2147483647 → (2147483647 - x4.toInt).toNat < n1 → RUN d_X2_readyBits 4 [(2, .inl x4), (1, .inl x3), (0, .inr (.inr (.inl 70)))] [] h (q_X2_readyBits h) := by
    intro n1
    induction n1 with
    | zero => intro x3 x4 m6 hz; exact absurd hz (Nat.not_lt_zero _)
    | succ n1 ih5 =>
      intro x3 x4 m6 hz
      refine R_iload_n (k := 2) rfl rfl rfl ?_
      refine R_aload_n (k := 0) rfl rfl rfl ?_
      refine R_getf_i (j := 4) rfl ft_2_25 sh_70 rfl ?_
      have b7 : (0 : Int) ≤ (h.1 70 4).toInt ∧ (h.1 70 4).toInt ≤ 6 := hI.1 70 4
      refine N_icmp_ge (a := x4.toInt) (b := (h.1 70 4).toInt) 48 rfl rfl rfl rfl (fun c8 => ?_) (fun c8 => ?_)
      · refine R_iload_n (k := 1) rfl rfl rfl ?_
        exact R_iret rfl rfl rfl ⟨rfl, _, rfl, trivial⟩
      · refine R_aload_n (k := 0) rfl rfl rfl ?_
        refine R_getf_r (j := 3) rfl ft_2_22 sh_70 rfl ?_
        refine R_iload_n (k := 2) rfl rfl rfl ?_
        refine R_iald rfl sh_74 ⟨by omega, by omega⟩ ?_
        refine N_any (fun x9 => ?_)
        refine N_if_le (a := x9.toInt) 42 rfl rfl rfl (fun c10 => ?_) (fun c10 => ?_)
        · refine N_iinc (a := x4.toInt) (c := 1) (fun w => [(2, .inl w), (1, .inl x3), (0, .inr (.inr (.inl 70)))]) rfl rfl (fun _ => rfl) (by decide) rfl (by decide) (by omega) (fun x11 q12 => ?_)
          refine R_goto 4 rfl rfl ?_
          exact RUN_weak (psub_cons rfl (psub_cons rfl (psub_cons rfl (psub_nil _)))) (ih5 x3 x11 (by omega) (by omega))
        · refine R_aload_n (k := 0) rfl rfl rfl ?_
          refine R_getf_r (j := 3) rfl ft_2_22 sh_70 rfl ?_
          refine R_iload_n (k := 2) rfl rfl rfl ?_
          refine R_iald rfl sh_74 ⟨by omega, by omega⟩ ?_
          refine N_any (fun x13 => ?_)
          refine R_aload_n (k := 0) rfl rfl rfl ?_
          refine R_getf_r (j := 0) rfl ft_2_9 sh_70 rfl ?_
          refine R_iload_n (k := 2) rfl rfl rfl ?_
          refine R_iald rfl sh_71 ⟨by omega, by omega⟩ ?_
          refine N_any (fun x14 => ?_)
          refine N_icmp_lt (a := x13.toInt) (b := x14.toInt) 42 rfl rfl rfl rfl (fun c15 => ?_) (fun c15 => ?_)
          · refine N_iinc (a := x4.toInt) (c := 1) (fun w => [(2, .inl w), (1, .inl x3), (0, .inr (.inr (.inl 70)))]) rfl rfl (fun _ => rfl) (by decide) rfl (by decide) (by omega) (fun x16 q17 => ?_)
            refine R_goto 4 rfl rfl ?_
            exact RUN_weak (psub_cons rfl (psub_cons rfl (psub_cons rfl (psub_nil _)))) (ih5 x3 x16 (by omega) (by omega))
          · refine R_iload_n (k := 1) rfl rfl rfl ?_
            refine R_iconst 1 rfl rfl ?_
            refine R_iload_n (k := 2) rfl rfl rfl ?_
            refine N_ishl1 (b := x4.toInt) rfl rfl (by omega) (fun x18 q19 => ?_)
            refine R_ior rfl ?_
            refine N_any (fun x20 => ?_)
            refine R_istore_n (k := 1) rfl [(1, .inl x20), (2, .inl x4), (0, .inr (.inr (.inl 70)))] rfl rfl (by decide) ?_
            refine N_iinc (a := x4.toInt) (c := 1) (fun w => [(2, .inl w), (1, .inl x20), (0, .inr (.inr (.inl 70)))]) rfl rfl (fun _ => rfl) (by decide) rfl (by decide) (by omega) (fun x21 q22 => ?_)
            refine R_goto 4 rfl rfl ?_
            exact RUN_weak (psub_cons rfl (psub_cons rfl (psub_cons rfl (psub_nil _)))) (ih5 x20 x21 (by omega) (by omega))
  exact lp2 _ (0 : Int32) (0 : Int32) (by decide) (Nat.lt_succ_self _)
abbrev q_X8_hasBit (h : PH) (a0 : Int64) (a1 : Int32) : Option PV → PH → Prop := fun r h' => h = h' ∧ ∃ z : Int32, r = some (.inl z) ∧ ((z.toInt = 0) ∨ (z.toInt = 1))
set_option maxHeartbeats 4000000 in
set_option maxRecDepth 100000 in
theorem k_X8_hasBit (h : PH) (hI : INV h) (a0 : Int64) (a1 : Int32) : CALL d_X8_hasBit [.inr (.inl a0), .inl a1] h (q_X8_hasBit h a0 a1) := by
  show RUN d_X8_hasBit 0 [(0, .inr (.inl a0)), (2, .inl a1)] [] h _
  have b1 := i_rng a1
  refine R_lload_n (k := 0) rfl rfl rfl ?_
  refine R_iload_n (k := 2) rfl rfl rfl ?_
  refine R_lushr rfl ?_
  refine N_anyL (fun w2 => ?_)
  refine R_lconst 1 rfl rfl ?_
  refine R_land rfl ?_
  refine N_anyL (fun w3 => ?_)
  refine R_lconst 0 rfl rfl ?_
  refine N_lcmp (a := w3.toInt) (b := 0) rfl rfl (by decide) (fun x4 q5 => ?_)
  refine N_if_eq (a := x4.toInt) 14 rfl rfl rfl (fun c6 => ?_) (fun c6 => ?_)
  · refine R_iconst 0 rfl rfl ?_
    exact R_iret rfl rfl rfl ⟨rfl, _, rfl, by rw [show (0 : Int32).toInt = 0 from rfl]; omega⟩
  · refine R_iconst 1 rfl rfl ?_
    refine R_goto 15 rfl rfl ?_
    exact R_iret rfl rfl rfl ⟨rfl, _, rfl, by rw [show (1 : Int32).toInt = 1 from rfl]; omega⟩
abbrev q_X2_nextIsFree (h : PH) (a0 : Int32) (a1 : Int32) : Option PV → PH → Prop := fun r h' => h = h' ∧ ∃ z : Int32, r = some (.inl z) ∧ ((z.toInt = 1 ∧ (h.1 70 4).toInt ≤ a0.toInt + 1) ∨ (z.toInt = 0 ∧ 0 ≤ a0.toInt ∧ a0.toInt ≤ 4 ∧ 2 ≤ (h.1 70 4).toInt ∧ (h.1 70 4).toInt ≤ 6 ∧ a0.toInt ≤ (h.1 70 4).toInt + (-2)) ∨ (z.toInt = 1 ∧ 0 ≤ a0.toInt ∧ a0.toInt ≤ 4 ∧ 2 ≤ (h.1 70 4).toInt ∧ (h.1 70 4).toInt ≤ 6 ∧ a0.toInt ≤ (h.1 70 4).toInt + (-2)))
set_option maxHeartbeats 4000000 in
set_option maxRecDepth 100000 in
theorem k_X2_nextIsFree (h : PH) (hI : INV h) (a0 : Int32) (a1 : Int32) (h0a : 0 ≤ a0.toInt ∧ a0.toInt ≤ 5) (h1a : 0 ≤ a1.toInt ∧ a1.toInt ≤ 59) : CALL d_X2_nextIsFree [.inr (.inr (.inl 70)), .inl a0, .inl a1] h (q_X2_nextIsFree h a0 a1) := by
  show RUN d_X2_nextIsFree 0 [(0, .inr (.inr (.inl 70))), (1, .inl a0), (2, .inl a1)] [] h _
  refine R_iload_n (k := 1) rfl rfl rfl ?_
  refine R_iconst 1 rfl rfl ?_
  refine N_iadd (a := a0.toInt) (b := 1) rfl rfl (by decide) (by omega) (fun x1 q2 => ?_)
  refine R_istore_n (k := 3) rfl [(3, .inl x1), (0, .inr (.inr (.inl 70))), (1, .inl a0), (2, .inl a1)] rfl rfl (by decide) ?_
  refine R_iload_n (k := 3) rfl rfl rfl ?_
  refine R_aload_n (k := 0) rfl rfl rfl ?_
  refine R_getf_i (j := 4) rfl ft_2_25 sh_70 rfl ?_
  have b3 : (0 : Int) ≤ (h.1 70 4).toInt ∧ (h.1 70 4).toInt ≤ 6 := hI.1 70 4
  refine N_icmp_ge (a := x1.toInt) (b := (h.1 70 4).toInt) 36 rfl rfl rfl rfl (fun c4 => ?_) (fun c4 => ?_)
  · refine R_iconst 1 rfl rfl ?_
    refine R_goto 41 rfl rfl ?_
    exact R_iret rfl rfl rfl ⟨rfl, _, rfl, by rw [show (1 : Int32).toInt = 1 from rfl]; omega⟩
  · refine R_aload_n (k := 0) rfl rfl rfl ?_
    refine R_getf_r (j := 3) rfl ft_2_22 sh_70 rfl ?_
    refine R_iload_n (k := 3) rfl rfl rfl ?_
    refine R_iald rfl sh_74 ⟨by omega, by omega⟩ ?_
    refine N_any (fun x5 => ?_)
    refine N_if_ne (a := x5.toInt) 40 rfl rfl rfl (fun c6 => ?_) (fun c6 => ?_)
    · refine R_iconst 0 rfl rfl ?_
      exact R_iret rfl rfl rfl ⟨rfl, _, rfl, by rw [show (0 : Int32).toInt = 0 from rfl]; omega⟩
    · refine R_aload_n (k := 0) rfl rfl rfl ?_
      refine R_getf_r (j := 2) rfl ft_2_18 sh_70 rfl ?_
      refine R_iload_n (k := 3) rfl rfl rfl ?_
      refine R_lald rfl sh_73 ⟨by omega, by omega⟩ ?_
      refine N_anyL (fun w7 => ?_)
      refine R_iload_n (k := 2) rfl rfl rfl ?_
      refine R_lushr rfl ?_
      refine N_anyL (fun w8 => ?_)
      refine R_lconst 1 rfl rfl ?_
      refine R_land rfl ?_
      refine N_anyL (fun w9 => ?_)
      refine R_lconst 0 rfl rfl ?_
      refine N_lcmp (a := w9.toInt) (b := 0) rfl rfl (by decide) (fun x10 q11 => ?_)
      refine N_if_ne (a := x10.toInt) 40 rfl rfl rfl (fun c12 => ?_) (fun c12 => ?_)
      · refine R_iconst 0 rfl rfl ?_
        exact R_iret rfl rfl rfl ⟨rfl, _, rfl, by rw [show (0 : Int32).toInt = 0 from rfl]; omega⟩
      · refine R_iconst 1 rfl rfl ?_
        refine R_goto 41 rfl rfl ?_
        exact R_iret rfl rfl rfl ⟨rfl, _, rfl, by rw [show (1 : Int32).toInt = 1 from rfl]; omega⟩
abbrev q_X2_passOn (h : PH) (a0 : Int32) : Option PV → PH → Prop := fun r h' => INV h' ∧ FR [74] h h' ∧ r = none
set_option maxHeartbeats 4000000 in
set_option maxRecDepth 100000 in
theorem k_X2_passOn (h : PH) (hI : INV h) (a0 : Int32) (h0a : 0 ≤ a0.toInt ∧ a0.toInt ≤ 5) : CALL d_X2_passOn [.inr (.inr (.inl 70)), .inl a0] h (q_X2_passOn h a0) := by
  show RUN d_X2_passOn 0 [(0, .inr (.inr (.inl 70))), (1, .inl a0)] [] h _
  have fr : FR [74] h h := FR.rf _ _
  refine R_aload_n (k := 0) rfl rfl rfl ?_
  refine R_getf_r (j := 3) rfl ft_2_22 sh_70 rfl ?_
  refine R_iload_n (k := 1) rfl rfl rfl ?_
  refine R_iconst 0 rfl rfl ?_
  refine K_iast (a := a0.toInt) (lo := (-2147483648)) (hi' := 2147483647) rfl sh_74 rfl ⟨by omega, by omega⟩ hI (by decide) rfl (by decide) fr (by decide) (fun h1 g2 hI fr => ?_)
  refine R_iload_n (k := 1) rfl rfl rfl ?_
  refine R_iconst 1 rfl rfl ?_
  refine N_iadd (a := a0.toInt) (b := 1) rfl rfl (by decide) (by omega) (fun x3 q4 => ?_)
  refine R_aload_n (k := 0) rfl rfl rfl ?_
  refine R_getf_i (j := 4) rfl ft_2_25 sh_70 rfl ?_
  have b5 : (0 : Int) ≤ (h1.1 70 4).toInt ∧ (h1.1 70 4).toInt ≤ 6 := hI.1 70 4
  refine N_icmp_ge (a := x3.toInt) (b := (h1.1 70 4).toInt) 26 rfl rfl rfl rfl (fun c6 => ?_) (fun c6 => ?_)
  · exact R_vret rfl rfl ⟨hI, fr, rfl⟩
  · refine R_aload_n (k := 0) rfl rfl rfl ?_
    refine R_getf_r (j := 3) rfl ft_2_22 sh_70 rfl ?_
    refine R_iload_n (k := 1) rfl rfl rfl ?_
    refine R_iconst 1 rfl rfl ?_
    refine N_iadd (a := a0.toInt) (b := 1) rfl rfl (by decide) (by omega) (fun x7 q8 => ?_)
    refine R_iconst 1 rfl rfl ?_
    refine K_iast (a := x7.toInt) (lo := (-2147483648)) (hi' := 2147483647) rfl sh_74 rfl ⟨by omega, by omega⟩ hI (by decide) rfl (by decide) fr (by decide) (fun h9 g10 hI fr => ?_)
    have s11 : (h9.1 70 4).toInt = (h1.1 70 4).toInt := by rw [g10, wI_ne _ _ _ (by decide)]
    exact R_vret rfl rfl ⟨hI, fr, rfl⟩
abbrev q_X2_isThrow (h : PH) (a0 : Int32) : Option PV → PH → Prop := fun r h' => h = h' ∧ ∃ z : Int32, r = some (.inl z) ∧ ((z.toInt = 0 ∧ (h.1 70 4).toInt = 0) ∨ (z.toInt = 0 ∧ 1 ≤ (h.1 70 4).toInt ∧ (h.1 70 4).toInt ≤ 6) ∨ (z.toInt = 1 ∧ 1 ≤ (h.1 70 4).toInt ∧ (h.1 70 4).toInt ≤ 6))
set_option maxHeartbeats 4000000 in
set_option maxRecDepth 100000 in
theorem k_X2_isThrow (h : PH) (hI : INV h) (a0 : Int32) : CALL d_X2_isThrow [.inr (.inr (.inl 70)), .inl a0] h (q_X2_isThrow h a0) := by
  show RUN d_X2_isThrow 0 [(0, .inr (.inr (.inl 70))), (1, .inl a0)] [] h _
  have b1 := i_rng a0
  refine R_aload_n (k := 0) rfl rfl rfl ?_
  refine R_getf_i (j := 4) rfl ft_2_25 sh_70 rfl ?_
  have b2 : (0 : Int) ≤ (h.1 70 4).toInt ∧ (h.1 70 4).toInt ≤ 6 := hI.1 70 4
  refine N_if_le (a := (h.1 70 4).toInt) 24 rfl rfl rfl (fun c3 => ?_) (fun c3 => ?_)
  · refine R_iconst 0 rfl rfl ?_
    exact R_iret rfl rfl rfl ⟨rfl, _, rfl, by rw [show (0 : Int32).toInt = 0 from rfl]; omega⟩
  · refine R_iload_n (k := 1) rfl rfl rfl ?_
    refine R_aload_n (k := 0) rfl rfl rfl ?_
    refine R_getf_i (j := 4) rfl ft_2_25 sh_70 rfl ?_
    refine R_iconst 1 rfl rfl ?_
    refine N_isub (a := (h.1 70 4).toInt) (b := 1) rfl rfl (by decide) (by omega) (fun x4 q5 => ?_)
    refine R_ishr rfl ?_
    refine N_any (fun x6 => ?_)
    refine R_iconst 1 rfl rfl ?_
    refine N_iand (b := 1) rfl (by decide) (by omega) (fun x7 q8 => ?_)
    refine N_if_eq (a := x7.toInt) 24 rfl rfl rfl (fun c9 => ?_) (fun c9 => ?_)
    · refine R_iconst 0 rfl rfl ?_
      exact R_iret rfl rfl rfl ⟨rfl, _, rfl, by rw [show (0 : Int32).toInt = 0 from rfl]; omega⟩
    · refine R_iconst 1 rfl rfl ?_
      refine R_goto 25 rfl rfl ?_
      exact R_iret rfl rfl rfl ⟨rfl, _, rfl, by rw [show (1 : Int32).toInt = 1 from rfl]; omega⟩
abbrev q_X2_step (h : PH) (a0 : Int32) (a1 : Int32) : Option PV → PH → Prop := fun r h' => INV h' ∧ FR [70, 74] h h' ∧ ∃ z : Int32, r = some (.inl z) ∧ ((True))
set_option maxHeartbeats 4000000 in
set_option maxRecDepth 100000 in
theorem k_X2_step (h : PH) (hI : INV h) (a0 : Int32) (a1 : Int32) (h0a : 0 ≤ a0.toInt ∧ a0.toInt ≤ 59) (h1a : 0 ≤ a1.toInt ∧ a1.toInt ≤ 1) : CALL d_X2_step [.inr (.inr (.inl 70)), .inl a0, .inl a1] h (q_X2_step h a0 a1) := by
  show RUN d_X2_step 0 [(0, .inr (.inr (.inl 70))), (1, .inl a0), (2, .inl a1)] [] h _
  have fr : FR [70, 74] h h := FR.rf _ _
  refine R_aload_n (k := 0) rfl rfl rfl ?_
  refine R_getf_i (j := 9) rfl ft_2_41 sh_70 rfl ?_
  refine N_i2l rfl (fun w1 q2 => ?_)
  refine R_aload_n (k := 0) rfl rfl rfl ?_
  refine R_getf_i (j := 7) rfl ft_2_35 sh_70 rfl ?_
  refine R_callS (As := [.inr (.inl w1), .inl (h.1 70 7)]) (rest := []) rfl mt_2_i69 (by decide) pp_X8_hasBit (by decide) rfl rfl (Nat.le_of_ble_eq_true rfl) (Nat.le_of_ble_eq_true rfl) ((k_X8_hasBit h hI w1 (h.1 70 7)).mono (fun r3 h4 p5 => ?_))
  obtain ⟨rfl, x6, rfl, q7 | q7⟩ := p5
  · show RUN d_X2_step 12 [(0, .inr (.inr (.inl 70))), (1, .inl a0), (2, .inl a1)] [.inl x6] h _
    refine N_if_eq (a := x6.toInt) 25 rfl rfl rfl (fun c8 => ?_) (fun c8 => ?_)
    · refine R_iconst 0 rfl rfl ?_
      refine R_istore_n (k := 3) rfl [(3, .inl 0), (0, .inr (.inr (.inl 70))), (1, .inl a0), (2, .inl a1)] rfl rfl (by decide) ?_
      refine R_aload_n (k := 0) rfl rfl rfl ?_
      refine R_getf_i (j := 4) rfl ft_2_25 sh_70 rfl ?_
      have b9 : (0 : Int) ≤ (h.1 70 4).toInt ∧ (h.1 70 4).toInt ≤ 6 := hI.1 70 4
      refine R_iconst 1 rfl rfl ?_
      refine N_isub (a := (h.1 70 4).toInt) (b := 1) rfl rfl (by decide) (by omega) (fun x10 q11 => ?_)
      refine R_istore (k := 4) [(4, .inl x10), (3, .inl 0), (0, .inr (.inr (.inl 70))), (1, .inl a0), (2, .inl a1)] rfl rfl (by decide) ?_
      have lp13 : ∀ (n12 : Nat) (h14 : PH) (x16 : Int32) (x17 : Int32), INV h14 → FR [70, 74] h h14 → FR [70, 74] h h14 → (-1) ≤ x17.toInt ∧ x17.toInt ≤ 5 → (x17.toInt - (-1)).toNat < n12 → RUN d_X2_step 35 [(4, .inl x17), (3, .inl x16), (0, .inr (.inr (.inl 70))), (1, .inl a0), (2, .inl a1)] [] h14 (q_X2_step h a0 a1) := by
        intro n12
        induction n12 with
        | zero => intro h14 x16 x17 m19 m20 m21 m22 hz; exact absurd hz (Nat.not_lt_zero _)
        | succ n12 ih18 =>
          intro h14 x16 x17 hI fr fl15 m22 hz
          refine R_iload (k := 4) rfl rfl ?_
          refine N_if_lt (a := x17.toInt) 131 rfl rfl rfl (fun c23 => ?_) (fun c23 => ?_)
          · refine R_aload_n (k := 0) rfl rfl rfl ?_
            refine R_getf_i (j := 4) rfl ft_2_25 sh_70 rfl ?_
            have b24 : (0 : Int) ≤ (h14.1 70 4).toInt ∧ (h14.1 70 4).toInt ≤ 6 := hI.1 70 4
            refine N_if_le (a := (h14.1 70 4).toInt) 184 rfl rfl rfl (fun c25 => ?_) (fun c25 => ?_)
            · refine R_aload_n (k := 0) rfl rfl rfl ?_
              refine R_aload_n (k := 0) rfl rfl rfl ?_
              refine R_getf_i (j := 9) rfl ft_2_41 sh_70 rfl ?_
              refine R_iconst 1 rfl rfl ?_
              refine R_ishl rfl ?_
              refine N_any (fun x26 => ?_)
              refine R_iconst 2 rfl rfl ?_
              refine R_aload_n (k := 0) rfl rfl rfl ?_
              refine R_getf_i (j := 7) rfl ft_2_35 sh_70 rfl ?_
              refine R_ishl rfl ?_
              refine N_any (fun x27 => ?_)
              refine R_iconst 1 rfl rfl ?_
              have b28 := i_rng x27
              refine R_isub rfl ?_
              refine N_any (fun x29 => ?_)
              refine R_iand rfl ?_
              refine N_any (fun x30 => ?_)
              refine K_putf (j := 9) (lo := (-2147483648)) (hi' := 2147483647) rfl ft_2_41 sh_70 rfl hI (by decide) rfl (i_rng _) fr (by decide) (fun h31 g32 hI fr => ?_)
              have fl15 : FR [70, 74] h h31 := by rw [g32]; exact FR_wI _ _ fl15 (by decide)
              have s33 : (h31.1 70 4).toInt = (h14.1 70 4).toInt := by rw [g32, wI_at (by decide)]
              have s34 : (h31.1 70 7).toInt = (h14.1 70 7).toInt := by rw [g32, wI_at (by decide)]
              have s35 : (h31.1 70 9).toInt = x30.toInt := by rw [g32, wI_is]
              refine R_aload_n (k := 0) rfl rfl rfl ?_
              refine R_iload_n (k := 3) rfl rfl rfl ?_
              refine R_callV (v := .inr (.inr (.inl 70))) (As := [.inl x16]) (rest := []) rfl mt_2_i77 pp_X2_isThrow (by decide) rfl rfl rfl (Nat.le_of_ble_eq_true rfl) (Nat.le_of_ble_eq_true rfl) ((k_X2_isThrow h31 hI x16).mono (fun r36 h37 p38 => ?_))
              obtain ⟨rfl, x39, rfl, q40 | q40 | q40⟩ := p38
              · show RUN d_X2_step 208 [(4, .inl x17), (3, .inl x16), (0, .inr (.inr (.inl 70))), (1, .inl a0), (2, .inl a1)] [.inl x39] h31 _
                refine N_if_eq (a := x39.toInt) 221 rfl rfl rfl (fun c41 => ?_) (fun c41 => ?_)
                · refine R_iload_n (k := 3) rfl rfl rfl ?_
                  exact R_iret rfl rfl rfl ⟨hI, fr, _, rfl, trivial⟩
                · exfalso; omega
              · exfalso; omega
              · exfalso; omega
            · refine R_aload_n (k := 0) rfl rfl rfl ?_
              refine R_getf_i (j := 8) rfl ft_2_38 sh_70 rfl ?_
              refine N_if_le (a := (h14.1 70 8).toInt) 184 rfl rfl rfl (fun c42 => ?_) (fun c42 => ?_)
              · refine R_aload_n (k := 0) rfl rfl rfl ?_
                refine R_aload_n (k := 0) rfl rfl rfl ?_
                refine R_getf_i (j := 9) rfl ft_2_41 sh_70 rfl ?_
                refine R_iconst 1 rfl rfl ?_
                refine R_ishl rfl ?_
                refine N_any (fun x43 => ?_)
                refine R_iconst 2 rfl rfl ?_
                refine R_aload_n (k := 0) rfl rfl rfl ?_
                refine R_getf_i (j := 7) rfl ft_2_35 sh_70 rfl ?_
                refine R_ishl rfl ?_
                refine N_any (fun x44 => ?_)
                refine R_iconst 1 rfl rfl ?_
                have b45 := i_rng x44
                refine R_isub rfl ?_
                refine N_any (fun x46 => ?_)
                refine R_iand rfl ?_
                refine N_any (fun x47 => ?_)
                refine K_putf (j := 9) (lo := (-2147483648)) (hi' := 2147483647) rfl ft_2_41 sh_70 rfl hI (by decide) rfl (i_rng _) fr (by decide) (fun h48 g49 hI fr => ?_)
                have fl15 : FR [70, 74] h h48 := by rw [g49]; exact FR_wI _ _ fl15 (by decide)
                have s50 : (h48.1 70 4).toInt = (h14.1 70 4).toInt := by rw [g49, wI_at (by decide)]
                have s51 : (h48.1 70 8).toInt = (h14.1 70 8).toInt := by rw [g49, wI_at (by decide)]
                have s52 : (h48.1 70 7).toInt = (h14.1 70 7).toInt := by rw [g49, wI_at (by decide)]
                have s53 : (h48.1 70 9).toInt = x47.toInt := by rw [g49, wI_is]
                refine R_aload_n (k := 0) rfl rfl rfl ?_
                refine R_iload_n (k := 3) rfl rfl rfl ?_
                refine R_callV (v := .inr (.inr (.inl 70))) (As := [.inl x16]) (rest := []) rfl mt_2_i77 pp_X2_isThrow (by decide) rfl rfl rfl (Nat.le_of_ble_eq_true rfl) (Nat.le_of_ble_eq_true rfl) ((k_X2_isThrow h48 hI x16).mono (fun r54 h55 p56 => ?_))
                obtain ⟨rfl, x57, rfl, q58 | q58 | q58⟩ := p56
                · exfalso; omega
                · show RUN d_X2_step 208 [(4, .inl x17), (3, .inl x16), (0, .inr (.inr (.inl 70))), (1, .inl a0), (2, .inl a1)] [.inl x57] h48 _
                  refine N_if_eq (a := x57.toInt) 221 rfl rfl rfl (fun c59 => ?_) (fun c59 => ?_)
                  · refine R_iload_n (k := 3) rfl rfl rfl ?_
                    exact R_iret rfl rfl rfl ⟨hI, fr, _, rfl, trivial⟩
                  · exfalso; omega
                · show RUN d_X2_step 208 [(4, .inl x17), (3, .inl x16), (0, .inr (.inr (.inl 70))), (1, .inl a0), (2, .inl a1)] [.inl x57] h48 _
                  refine N_if_eq (a := x57.toInt) 221 rfl rfl rfl (fun c60 => ?_) (fun c60 => ?_)
                  · exfalso; omega
                  · refine R_aload_n (k := 0) rfl rfl rfl ?_
                    refine R_dup_r rfl ?_
                    refine R_getf_i (j := 9) rfl ft_2_41 sh_70 rfl ?_
                    refine R_iconst 1 rfl rfl ?_
                    refine R_ior rfl ?_
                    refine N_any (fun x61 => ?_)
                    refine K_putf (j := 9) (lo := (-2147483648)) (hi' := 2147483647) rfl ft_2_41 sh_70 rfl hI (by decide) rfl (i_rng _) fr (by decide) (fun h62 g63 hI fr => ?_)
                    have fl15 : FR [70, 74] h h62 := by rw [g63]; exact FR_wI _ _ fl15 (by decide)
                    have s64 : (h62.1 70 4).toInt = (h48.1 70 4).toInt := by rw [g63, wI_at (by decide)]
                    have s65 : (h62.1 70 8).toInt = (h48.1 70 8).toInt := by rw [g63, wI_at (by decide)]
                    have s66 : (h62.1 70 7).toInt = (h48.1 70 7).toInt := by rw [g63, wI_at (by decide)]
                    have s67 : (h62.1 70 9).toInt = x61.toInt := by rw [g63, wI_is]
                    refine R_iload_n (k := 3) rfl rfl rfl ?_
                    exact R_iret rfl rfl rfl ⟨hI, fr, _, rfl, trivial⟩
              · refine R_aload_n (k := 0) rfl rfl rfl ?_
                refine R_getf_r (j := 3) rfl ft_2_22 sh_70 rfl ?_
                refine R_iconst 0 rfl rfl ?_
                refine R_iald rfl sh_74 (by decide) ?_
                show RUN d_X2_step 151 [(4, .inl x17), (3, .inl x16), (0, .inr (.inr (.inl 70))), (1, .inl a0), (2, .inl a1)] [.inl (h14.1 74 0)] h14 _
                refine N_if_ne (a := (h14.1 74 0).toInt) 184 rfl rfl rfl (fun c68 => ?_) (fun c68 => ?_)
                · refine R_aload_n (k := 0) rfl rfl rfl ?_
                  refine R_aload_n (k := 0) rfl rfl rfl ?_
                  refine R_getf_i (j := 9) rfl ft_2_41 sh_70 rfl ?_
                  refine R_iconst 1 rfl rfl ?_
                  refine R_ishl rfl ?_
                  refine N_any (fun x69 => ?_)
                  refine R_iconst 2 rfl rfl ?_
                  refine R_aload_n (k := 0) rfl rfl rfl ?_
                  refine R_getf_i (j := 7) rfl ft_2_35 sh_70 rfl ?_
                  refine R_ishl rfl ?_
                  refine N_any (fun x70 => ?_)
                  refine R_iconst 1 rfl rfl ?_
                  have b71 := i_rng x70
                  refine R_isub rfl ?_
                  refine N_any (fun x72 => ?_)
                  refine R_iand rfl ?_
                  refine N_any (fun x73 => ?_)
                  refine K_putf (j := 9) (lo := (-2147483648)) (hi' := 2147483647) rfl ft_2_41 sh_70 rfl hI (by decide) rfl (i_rng _) fr (by decide) (fun h74 g75 hI fr => ?_)
                  have fl15 : FR [70, 74] h h74 := by rw [g75]; exact FR_wI _ _ fl15 (by decide)
                  have s76 : (h74.1 70 4).toInt = (h14.1 70 4).toInt := by rw [g75, wI_at (by decide)]
                  have s77 : (h74.1 70 8).toInt = (h14.1 70 8).toInt := by rw [g75, wI_at (by decide)]
                  have s78 : (h74.1 74 0).toInt = (h14.1 74 0).toInt := by rw [g75, wI_ne _ _ _ (by decide)]
                  have s79 : (h74.1 70 7).toInt = (h14.1 70 7).toInt := by rw [g75, wI_at (by decide)]
                  have s80 : (h74.1 70 9).toInt = x73.toInt := by rw [g75, wI_is]
                  refine R_aload_n (k := 0) rfl rfl rfl ?_
                  refine R_iload_n (k := 3) rfl rfl rfl ?_
                  refine R_callV (v := .inr (.inr (.inl 70))) (As := [.inl x16]) (rest := []) rfl mt_2_i77 pp_X2_isThrow (by decide) rfl rfl rfl (Nat.le_of_ble_eq_true rfl) (Nat.le_of_ble_eq_true rfl) ((k_X2_isThrow h74 hI x16).mono (fun r81 h82 p83 => ?_))
                  obtain ⟨rfl, x84, rfl, q85 | q85 | q85⟩ := p83
                  · exfalso; omega
                  · show RUN d_X2_step 208 [(4, .inl x17), (3, .inl x16), (0, .inr (.inr (.inl 70))), (1, .inl a0), (2, .inl a1)] [.inl x84] h74 _
                    refine N_if_eq (a := x84.toInt) 221 rfl rfl rfl (fun c86 => ?_) (fun c86 => ?_)
                    · refine R_iload_n (k := 3) rfl rfl rfl ?_
                      exact R_iret rfl rfl rfl ⟨hI, fr, _, rfl, trivial⟩
                    · exfalso; omega
                  · show RUN d_X2_step 208 [(4, .inl x17), (3, .inl x16), (0, .inr (.inr (.inl 70))), (1, .inl a0), (2, .inl a1)] [.inl x84] h74 _
                    refine N_if_eq (a := x84.toInt) 221 rfl rfl rfl (fun c87 => ?_) (fun c87 => ?_)
                    · exfalso; omega
                    · refine R_aload_n (k := 0) rfl rfl rfl ?_
                      refine R_dup_r rfl ?_
                      refine R_getf_i (j := 9) rfl ft_2_41 sh_70 rfl ?_
                      refine R_iconst 1 rfl rfl ?_
                      refine R_ior rfl ?_
                      refine N_any (fun x88 => ?_)
                      refine K_putf (j := 9) (lo := (-2147483648)) (hi' := 2147483647) rfl ft_2_41 sh_70 rfl hI (by decide) rfl (i_rng _) fr (by decide) (fun h89 g90 hI fr => ?_)
                      have fl15 : FR [70, 74] h h89 := by rw [g90]; exact FR_wI _ _ fl15 (by decide)
                      have s91 : (h89.1 70 4).toInt = (h74.1 70 4).toInt := by rw [g90, wI_at (by decide)]
                      have s92 : (h89.1 70 8).toInt = (h74.1 70 8).toInt := by rw [g90, wI_at (by decide)]
                      have s93 : (h89.1 74 0).toInt = (h74.1 74 0).toInt := by rw [g90, wI_ne _ _ _ (by decide)]
                      have s94 : (h89.1 70 7).toInt = (h74.1 70 7).toInt := by rw [g90, wI_at (by decide)]
                      have s95 : (h89.1 70 9).toInt = x88.toInt := by rw [g90, wI_is]
                      refine R_iload_n (k := 3) rfl rfl rfl ?_
                      exact R_iret rfl rfl rfl ⟨hI, fr, _, rfl, trivial⟩
                · refine R_aload_n (k := 0) rfl rfl rfl ?_
                  refine R_getf_r (j := 2) rfl ft_2_18 sh_70 rfl ?_
                  refine R_iconst 0 rfl rfl ?_
                  refine R_lald rfl sh_73 (by decide) ?_
                  refine N_anyL (fun w96 => ?_)
                  refine R_iload_n (k := 1) rfl rfl rfl ?_
                  refine R_callS (As := [.inr (.inl w96), .inl a0]) (rest := []) rfl mt_2_i69 (by decide) pp_X8_hasBit (by decide) rfl rfl (Nat.le_of_ble_eq_true rfl) (Nat.le_of_ble_eq_true rfl) ((k_X8_hasBit h14 hI w96 a0).mono (fun r97 h98 p99 => ?_))
                  obtain ⟨rfl, x100, rfl, q101 | q101⟩ := p99
                  · show RUN d_X2_step 164 [(4, .inl x17), (3, .inl x16), (0, .inr (.inr (.inl 70))), (1, .inl a0), (2, .inl a1)] [.inl x100] h14 _
                    refine N_if_ne (a := x100.toInt) 184 rfl rfl rfl (fun c102 => ?_) (fun c102 => ?_)
                    · exfalso; omega
                    · refine R_aload_n (k := 0) rfl rfl rfl ?_
                      refine R_dup_r rfl ?_
                      refine R_getf_i (j := 8) rfl ft_2_38 sh_70 rfl ?_
                      refine R_iconst 1 rfl rfl ?_
                      have b103 := i_rng (h14.1 70 8)
                      refine N_isub (a := (h14.1 70 8).toInt) (b := 1) rfl rfl (by decide) (by omega) (fun x104 q105 => ?_)
                      refine K_putf (j := 8) (lo := (-2147483648)) (hi' := 2147483647) rfl ft_2_38 sh_70 rfl hI (by decide) rfl (i_rng _) fr (by decide) (fun h106 g107 hI fr => ?_)
                      have fl15 : FR [70, 74] h h106 := by rw [g107]; exact FR_wI _ _ fl15 (by decide)
                      have s108 : (h106.1 70 4).toInt = (h14.1 70 4).toInt := by rw [g107, wI_at (by decide)]
                      have s109 : (h106.1 74 0).toInt = (h14.1 74 0).toInt := by rw [g107, wI_ne _ _ _ (by decide)]
                      have s110 : (h106.1 70 8).toInt = x104.toInt := by rw [g107, wI_is]
                      refine R_aload_n (k := 0) rfl rfl rfl ?_
                      refine R_getf_r (j := 3) rfl ft_2_22 sh_70 rfl ?_
                      refine R_iconst 0 rfl rfl ?_
                      refine R_iconst 1 rfl rfl ?_
                      refine K_iast (a := 0) (lo := (-2147483648)) (hi' := 2147483647) rfl sh_74 (by decide) (by decide) hI (by decide) rfl (by decide) fr (by decide) (fun h111 g112 hI fr => ?_)
                      have fl15 : FR [70, 74] h h111 := by rw [g112]; exact FR_wI _ _ fl15 (by decide)
                      have s113 : (h111.1 70 4).toInt = (h106.1 70 4).toInt := by rw [g112, wI_ne _ _ _ (by decide)]
                      have s114 : (h111.1 70 8).toInt = (h106.1 70 8).toInt := by rw [g112, wI_ne _ _ _ (by decide)]
                      refine R_aload_n (k := 0) rfl rfl rfl ?_
                      refine R_aload_n (k := 0) rfl rfl rfl ?_
                      refine R_getf_i (j := 9) rfl ft_2_41 sh_70 rfl ?_
                      refine R_iconst 1 rfl rfl ?_
                      refine R_ishl rfl ?_
                      refine N_any (fun x115 => ?_)
                      refine R_iconst 2 rfl rfl ?_
                      refine R_aload_n (k := 0) rfl rfl rfl ?_
                      refine R_getf_i (j := 7) rfl ft_2_35 sh_70 rfl ?_
                      refine R_ishl rfl ?_
                      refine N_any (fun x116 => ?_)
                      refine R_iconst 1 rfl rfl ?_
                      have b117 := i_rng x116
                      refine R_isub rfl ?_
                      refine N_any (fun x118 => ?_)
                      refine R_iand rfl ?_
                      refine N_any (fun x119 => ?_)
                      refine K_putf (j := 9) (lo := (-2147483648)) (hi' := 2147483647) rfl ft_2_41 sh_70 rfl hI (by decide) rfl (i_rng _) fr (by decide) (fun h120 g121 hI fr => ?_)
                      have fl15 : FR [70, 74] h h120 := by rw [g121]; exact FR_wI _ _ fl15 (by decide)
                      have s122 : (h120.1 70 4).toInt = (h111.1 70 4).toInt := by rw [g121, wI_at (by decide)]
                      have s123 : (h120.1 70 8).toInt = (h111.1 70 8).toInt := by rw [g121, wI_at (by decide)]
                      have s124 : (h120.1 70 7).toInt = (h111.1 70 7).toInt := by rw [g121, wI_at (by decide)]
                      have s125 : (h120.1 70 9).toInt = x119.toInt := by rw [g121, wI_is]
                      refine R_aload_n (k := 0) rfl rfl rfl ?_
                      refine R_iload_n (k := 3) rfl rfl rfl ?_
                      refine R_callV (v := .inr (.inr (.inl 70))) (As := [.inl x16]) (rest := []) rfl mt_2_i77 pp_X2_isThrow (by decide) rfl rfl rfl (Nat.le_of_ble_eq_true rfl) (Nat.le_of_ble_eq_true rfl) ((k_X2_isThrow h120 hI x16).mono (fun r126 h127 p128 => ?_))
                      obtain ⟨rfl, x129, rfl, q130 | q130 | q130⟩ := p128
                      · exfalso; omega
                      · show RUN d_X2_step 208 [(4, .inl x17), (3, .inl x16), (0, .inr (.inr (.inl 70))), (1, .inl a0), (2, .inl a1)] [.inl x129] h120 _
                        refine N_if_eq (a := x129.toInt) 221 rfl rfl rfl (fun c131 => ?_) (fun c131 => ?_)
                        · refine R_iload_n (k := 3) rfl rfl rfl ?_
                          exact R_iret rfl rfl rfl ⟨hI, fr, _, rfl, trivial⟩
                        · exfalso; omega
                      · show RUN d_X2_step 208 [(4, .inl x17), (3, .inl x16), (0, .inr (.inr (.inl 70))), (1, .inl a0), (2, .inl a1)] [.inl x129] h120 _
                        refine N_if_eq (a := x129.toInt) 221 rfl rfl rfl (fun c132 => ?_) (fun c132 => ?_)
                        · exfalso; omega
                        · refine R_aload_n (k := 0) rfl rfl rfl ?_
                          refine R_dup_r rfl ?_
                          refine R_getf_i (j := 9) rfl ft_2_41 sh_70 rfl ?_
                          refine R_iconst 1 rfl rfl ?_
                          refine R_ior rfl ?_
                          refine N_any (fun x133 => ?_)
                          refine K_putf (j := 9) (lo := (-2147483648)) (hi' := 2147483647) rfl ft_2_41 sh_70 rfl hI (by decide) rfl (i_rng _) fr (by decide) (fun h134 g135 hI fr => ?_)
                          have fl15 : FR [70, 74] h h134 := by rw [g135]; exact FR_wI _ _ fl15 (by decide)
                          have s136 : (h134.1 70 4).toInt = (h120.1 70 4).toInt := by rw [g135, wI_at (by decide)]
                          have s137 : (h134.1 70 8).toInt = (h120.1 70 8).toInt := by rw [g135, wI_at (by decide)]
                          have s138 : (h134.1 70 7).toInt = (h120.1 70 7).toInt := by rw [g135, wI_at (by decide)]
                          have s139 : (h134.1 70 9).toInt = x133.toInt := by rw [g135, wI_is]
                          refine R_iload_n (k := 3) rfl rfl rfl ?_
                          exact R_iret rfl rfl rfl ⟨hI, fr, _, rfl, trivial⟩
                  · show RUN d_X2_step 164 [(4, .inl x17), (3, .inl x16), (0, .inr (.inr (.inl 70))), (1, .inl a0), (2, .inl a1)] [.inl x100] h14 _
                    refine N_if_ne (a := x100.toInt) 184 rfl rfl rfl (fun c140 => ?_) (fun c140 => ?_)
                    · refine R_aload_n (k := 0) rfl rfl rfl ?_
                      refine R_aload_n (k := 0) rfl rfl rfl ?_
                      refine R_getf_i (j := 9) rfl ft_2_41 sh_70 rfl ?_
                      refine R_iconst 1 rfl rfl ?_
                      refine R_ishl rfl ?_
                      refine N_any (fun x141 => ?_)
                      refine R_iconst 2 rfl rfl ?_
                      refine R_aload_n (k := 0) rfl rfl rfl ?_
                      refine R_getf_i (j := 7) rfl ft_2_35 sh_70 rfl ?_
                      refine R_ishl rfl ?_
                      refine N_any (fun x142 => ?_)
                      refine R_iconst 1 rfl rfl ?_
                      have b143 := i_rng x142
                      refine R_isub rfl ?_
                      refine N_any (fun x144 => ?_)
                      refine R_iand rfl ?_
                      refine N_any (fun x145 => ?_)
                      refine K_putf (j := 9) (lo := (-2147483648)) (hi' := 2147483647) rfl ft_2_41 sh_70 rfl hI (by decide) rfl (i_rng _) fr (by decide) (fun h146 g147 hI fr => ?_)
                      have fl15 : FR [70, 74] h h146 := by rw [g147]; exact FR_wI _ _ fl15 (by decide)
                      have s148 : (h146.1 70 4).toInt = (h14.1 70 4).toInt := by rw [g147, wI_at (by decide)]
                      have s149 : (h146.1 70 8).toInt = (h14.1 70 8).toInt := by rw [g147, wI_at (by decide)]
                      have s150 : (h146.1 74 0).toInt = (h14.1 74 0).toInt := by rw [g147, wI_ne _ _ _ (by decide)]
                      have s151 : (h146.1 70 7).toInt = (h14.1 70 7).toInt := by rw [g147, wI_at (by decide)]
                      have s152 : (h146.1 70 9).toInt = x145.toInt := by rw [g147, wI_is]
                      refine R_aload_n (k := 0) rfl rfl rfl ?_
                      refine R_iload_n (k := 3) rfl rfl rfl ?_
                      refine R_callV (v := .inr (.inr (.inl 70))) (As := [.inl x16]) (rest := []) rfl mt_2_i77 pp_X2_isThrow (by decide) rfl rfl rfl (Nat.le_of_ble_eq_true rfl) (Nat.le_of_ble_eq_true rfl) ((k_X2_isThrow h146 hI x16).mono (fun r153 h154 p155 => ?_))
                      obtain ⟨rfl, x156, rfl, q157 | q157 | q157⟩ := p155
                      · exfalso; omega
                      · show RUN d_X2_step 208 [(4, .inl x17), (3, .inl x16), (0, .inr (.inr (.inl 70))), (1, .inl a0), (2, .inl a1)] [.inl x156] h146 _
                        refine N_if_eq (a := x156.toInt) 221 rfl rfl rfl (fun c158 => ?_) (fun c158 => ?_)
                        · refine R_iload_n (k := 3) rfl rfl rfl ?_
                          exact R_iret rfl rfl rfl ⟨hI, fr, _, rfl, trivial⟩
                        · exfalso; omega
                      · show RUN d_X2_step 208 [(4, .inl x17), (3, .inl x16), (0, .inr (.inr (.inl 70))), (1, .inl a0), (2, .inl a1)] [.inl x156] h146 _
                        refine N_if_eq (a := x156.toInt) 221 rfl rfl rfl (fun c159 => ?_) (fun c159 => ?_)
                        · exfalso; omega
                        · refine R_aload_n (k := 0) rfl rfl rfl ?_
                          refine R_dup_r rfl ?_
                          refine R_getf_i (j := 9) rfl ft_2_41 sh_70 rfl ?_
                          refine R_iconst 1 rfl rfl ?_
                          refine R_ior rfl ?_
                          refine N_any (fun x160 => ?_)
                          refine K_putf (j := 9) (lo := (-2147483648)) (hi' := 2147483647) rfl ft_2_41 sh_70 rfl hI (by decide) rfl (i_rng _) fr (by decide) (fun h161 g162 hI fr => ?_)
                          have fl15 : FR [70, 74] h h161 := by rw [g162]; exact FR_wI _ _ fl15 (by decide)
                          have s163 : (h161.1 70 4).toInt = (h146.1 70 4).toInt := by rw [g162, wI_at (by decide)]
                          have s164 : (h161.1 70 8).toInt = (h146.1 70 8).toInt := by rw [g162, wI_at (by decide)]
                          have s165 : (h161.1 74 0).toInt = (h146.1 74 0).toInt := by rw [g162, wI_ne _ _ _ (by decide)]
                          have s166 : (h161.1 70 7).toInt = (h146.1 70 7).toInt := by rw [g162, wI_at (by decide)]
                          have s167 : (h161.1 70 9).toInt = x160.toInt := by rw [g162, wI_is]
                          refine R_iload_n (k := 3) rfl rfl rfl ?_
                          exact R_iret rfl rfl rfl ⟨hI, fr, _, rfl, trivial⟩
                    · exfalso; omega
          · refine R_aload_n (k := 0) rfl rfl rfl ?_
            refine R_getf_r (j := 3) rfl ft_2_22 sh_70 rfl ?_
            refine R_iload (k := 4) rfl rfl ?_
            refine R_iald rfl sh_74 ⟨by omega, by omega⟩ ?_
            refine N_any (fun x168 => ?_)
            refine N_if_eq (a := x168.toInt) 125 rfl rfl rfl (fun c169 => ?_) (fun c169 => ?_)
            · refine N_iinc (a := x17.toInt) (c := (-1)) (fun w => [(4, .inl w), (3, .inl x16), (0, .inr (.inr (.inl 70))), (1, .inl a0), (2, .inl a1)]) rfl rfl (fun _ => rfl) (by decide) rfl (by decide) (by omega) (fun x170 q171 => ?_)
              refine R_goto 35 rfl rfl ?_
              exact RUN_weak (psub_cons rfl (psub_cons rfl (psub_cons rfl (psub_cons rfl (psub_cons rfl (psub_nil _)))))) (ih18 h14 x16 x170 hI fr fl15 (by omega) (by omega))
            · refine R_aload_n (k := 0) rfl rfl rfl ?_
              refine R_getf_r (j := 2) rfl ft_2_18 sh_70 rfl ?_
              refine R_iload (k := 4) rfl rfl ?_
              refine R_lald rfl sh_73 ⟨by omega, by omega⟩ ?_
              refine N_anyL (fun w172 => ?_)
              refine R_iload_n (k := 1) rfl rfl rfl ?_
              refine R_callS (As := [.inr (.inl w172), .inl a0]) (rest := []) rfl mt_2_i69 (by decide) pp_X8_hasBit (by decide) rfl rfl (Nat.le_of_ble_eq_true rfl) (Nat.le_of_ble_eq_true rfl) ((k_X8_hasBit h14 hI w172 a0).mono (fun r173 h174 p175 => ?_))
              obtain ⟨rfl, x176, rfl, q177 | q177⟩ := p175
              · show RUN d_X2_step 61 [(4, .inl x17), (3, .inl x16), (0, .inr (.inr (.inl 70))), (1, .inl a0), (2, .inl a1)] [.inl x176] h14 _
                refine N_if_eq (a := x176.toInt) 67 rfl rfl rfl (fun c178 => ?_) (fun c178 => ?_)
                · refine R_aload_n (k := 0) rfl rfl rfl ?_
                  refine R_getf_r (j := 3) rfl ft_2_22 sh_70 rfl ?_
                  refine R_iload (k := 4) rfl rfl ?_
                  refine R_iald rfl sh_74 ⟨by omega, by omega⟩ ?_
                  refine N_any (fun x179 => ?_)
                  refine R_aload_n (k := 0) rfl rfl rfl ?_
                  refine R_getf_r (j := 0) rfl ft_2_9 sh_70 rfl ?_
                  refine R_iload (k := 4) rfl rfl ?_
                  refine R_iald rfl sh_71 ⟨by omega, by omega⟩ ?_
                  refine N_any (fun x180 => ?_)
                  refine N_icmp_ge (a := x179.toInt) (b := x180.toInt) 98 rfl rfl rfl rfl (fun c181 => ?_) (fun c181 => ?_)
                  · refine R_iload_n (k := 2) rfl rfl rfl ?_
                    refine N_if_ne (a := a1.toInt) 125 rfl rfl rfl (fun c182 => ?_) (fun c182 => ?_)
                    · refine N_iinc (a := x17.toInt) (c := (-1)) (fun w => [(4, .inl w), (3, .inl x16), (0, .inr (.inr (.inl 70))), (1, .inl a0), (2, .inl a1)]) rfl rfl (fun _ => rfl) (by decide) rfl (by decide) (by omega) (fun x183 q184 => ?_)
                      refine R_goto 35 rfl rfl ?_
                      exact RUN_weak (psub_cons rfl (psub_cons rfl (psub_cons rfl (psub_cons rfl (psub_cons rfl (psub_nil _)))))) (ih18 h14 x16 x183 hI fr fl15 (by omega) (by omega))
                    · refine R_aload_n (k := 0) rfl rfl rfl ?_
                      refine R_iload (k := 4) rfl rfl ?_
                      refine R_iload_n (k := 1) rfl rfl rfl ?_
                      refine R_callV (v := .inr (.inr (.inl 70))) (As := [.inl x17, .inl a0]) (rest := []) rfl mt_2_i80 pp_X2_nextIsFree (by decide) rfl rfl rfl (Nat.le_of_ble_eq_true rfl) (Nat.le_of_ble_eq_true rfl) ((k_X2_nextIsFree h14 hI x17 a0 (by omega) (by omega)).mono (fun r185 h186 p187 => ?_))
                      obtain ⟨rfl, x188, rfl, q189 | q189 | q189⟩ := p187
                      · have b190 : (0 : Int) ≤ (h14.1 70 4).toInt ∧ (h14.1 70 4).toInt ≤ 6 := hI.1 70 4
                        show RUN d_X2_step 109 [(4, .inl x17), (3, .inl x16), (0, .inr (.inr (.inl 70))), (1, .inl a0), (2, .inl a1)] [.inl x188] h14 _
                        refine N_if_eq (a := x188.toInt) 125 rfl rfl rfl (fun c191 => ?_) (fun c191 => ?_)
                        · exfalso; omega
                        · refine R_aload_n (k := 0) rfl rfl rfl ?_
                          refine R_iload (k := 4) rfl rfl ?_
                          refine R_callV (v := .inr (.inr (.inl 70))) (As := [.inl x17]) (rest := []) rfl mt_2_i84 pp_X2_passOn (by decide) rfl rfl rfl (Nat.le_of_ble_eq_true rfl) (Nat.le_of_ble_eq_true rfl) ((k_X2_passOn h14 hI x17 (by omega)).mono (fun r192 h193 p194 => ?_))
                          obtain ⟨hJ, fj, rfl⟩ := p194
                          have f195 := fj
                          have fr := fr.trans fj (by decide)
                          have hI := hJ
                          have fl15 : FR [70, 74] h h193 := fl15.trans fj (by decide)
                          have s196 : (h193.1 70 4).toInt = (h14.1 70 4).toInt := by rw [(f195 70 (by decide)).1]
                          show RUN d_X2_step 118 [(4, .inl x17), (3, .inl x16), (0, .inr (.inr (.inl 70))), (1, .inl a0), (2, .inl a1)] [] h193 _
                          refine R_iload_n (k := 3) rfl rfl rfl ?_
                          refine R_iconst 1 rfl rfl ?_
                          refine R_iload (k := 4) rfl rfl ?_
                          refine N_ishl1 (b := x17.toInt) rfl rfl (by omega) (fun x197 q198 => ?_)
                          refine R_ior rfl ?_
                          refine N_any (fun x199 => ?_)
                          refine R_istore_n (k := 3) rfl [(3, .inl x199), (4, .inl x17), (0, .inr (.inr (.inl 70))), (1, .inl a0), (2, .inl a1)] rfl rfl (by decide) ?_
                          refine N_iinc (a := x17.toInt) (c := (-1)) (fun w => [(4, .inl w), (3, .inl x199), (0, .inr (.inr (.inl 70))), (1, .inl a0), (2, .inl a1)]) rfl rfl (fun _ => rfl) (by decide) rfl (by decide) (by omega) (fun x200 q201 => ?_)
                          refine R_goto 35 rfl rfl ?_
                          exact RUN_weak (psub_cons rfl (psub_cons rfl (psub_cons rfl (psub_cons rfl (psub_cons rfl (psub_nil _)))))) (ih18 h193 x199 x200 hI fr fl15 (by omega) (by omega))
                      · have b202 : (0 : Int) ≤ (h14.1 70 4).toInt ∧ (h14.1 70 4).toInt ≤ 6 := hI.1 70 4
                        show RUN d_X2_step 109 [(4, .inl x17), (3, .inl x16), (0, .inr (.inr (.inl 70))), (1, .inl a0), (2, .inl a1)] [.inl x188] h14 _
                        refine N_if_eq (a := x188.toInt) 125 rfl rfl rfl (fun c203 => ?_) (fun c203 => ?_)
                        · refine N_iinc (a := x17.toInt) (c := (-1)) (fun w => [(4, .inl w), (3, .inl x16), (0, .inr (.inr (.inl 70))), (1, .inl a0), (2, .inl a1)]) rfl rfl (fun _ => rfl) (by decide) rfl (by decide) (by omega) (fun x204 q205 => ?_)
                          refine R_goto 35 rfl rfl ?_
                          exact RUN_weak (psub_cons rfl (psub_cons rfl (psub_cons rfl (psub_cons rfl (psub_cons rfl (psub_nil _)))))) (ih18 h14 x16 x204 hI fr fl15 (by omega) (by omega))
                        · exfalso; omega
                      · have b206 : (0 : Int) ≤ (h14.1 70 4).toInt ∧ (h14.1 70 4).toInt ≤ 6 := hI.1 70 4
                        show RUN d_X2_step 109 [(4, .inl x17), (3, .inl x16), (0, .inr (.inr (.inl 70))), (1, .inl a0), (2, .inl a1)] [.inl x188] h14 _
                        refine N_if_eq (a := x188.toInt) 125 rfl rfl rfl (fun c207 => ?_) (fun c207 => ?_)
                        · exfalso; omega
                        · refine R_aload_n (k := 0) rfl rfl rfl ?_
                          refine R_iload (k := 4) rfl rfl ?_
                          refine R_callV (v := .inr (.inr (.inl 70))) (As := [.inl x17]) (rest := []) rfl mt_2_i84 pp_X2_passOn (by decide) rfl rfl rfl (Nat.le_of_ble_eq_true rfl) (Nat.le_of_ble_eq_true rfl) ((k_X2_passOn h14 hI x17 (by omega)).mono (fun r208 h209 p210 => ?_))
                          obtain ⟨hJ, fj, rfl⟩ := p210
                          have f211 := fj
                          have fr := fr.trans fj (by decide)
                          have hI := hJ
                          have fl15 : FR [70, 74] h h209 := fl15.trans fj (by decide)
                          have s212 : (h209.1 70 4).toInt = (h14.1 70 4).toInt := by rw [(f211 70 (by decide)).1]
                          show RUN d_X2_step 118 [(4, .inl x17), (3, .inl x16), (0, .inr (.inr (.inl 70))), (1, .inl a0), (2, .inl a1)] [] h209 _
                          refine R_iload_n (k := 3) rfl rfl rfl ?_
                          refine R_iconst 1 rfl rfl ?_
                          refine R_iload (k := 4) rfl rfl ?_
                          refine N_ishl1 (b := x17.toInt) rfl rfl (by omega) (fun x213 q214 => ?_)
                          refine R_ior rfl ?_
                          refine N_any (fun x215 => ?_)
                          refine R_istore_n (k := 3) rfl [(3, .inl x215), (4, .inl x17), (0, .inr (.inr (.inl 70))), (1, .inl a0), (2, .inl a1)] rfl rfl (by decide) ?_
                          refine N_iinc (a := x17.toInt) (c := (-1)) (fun w => [(4, .inl w), (3, .inl x215), (0, .inr (.inr (.inl 70))), (1, .inl a0), (2, .inl a1)]) rfl rfl (fun _ => rfl) (by decide) rfl (by decide) (by omega) (fun x216 q217 => ?_)
                          refine R_goto 35 rfl rfl ?_
                          exact RUN_weak (psub_cons rfl (psub_cons rfl (psub_cons rfl (psub_cons rfl (psub_cons rfl (psub_nil _)))))) (ih18 h209 x215 x216 hI fr fl15 (by omega) (by omega))
                  · refine R_aload_n (k := 0) rfl rfl rfl ?_
                    refine R_getf_r (j := 3) rfl ft_2_22 sh_70 rfl ?_
                    refine R_iload (k := 4) rfl rfl ?_
                    refine R_dup2 rfl ?_
                    refine R_iald rfl sh_74 ⟨by omega, by omega⟩ ?_
                    refine N_any (fun x218 => ?_)
                    refine R_iconst 1 rfl rfl ?_
                    have b219 := i_rng x218
                    refine R_iadd rfl ?_
                    refine N_any (fun x220 => ?_)
                    refine K_iast (a := x17.toInt) (lo := (-2147483648)) (hi' := 2147483647) rfl sh_74 rfl ⟨by omega, by omega⟩ hI (by decide) rfl (i_rng _) fr (by decide) (fun h221 g222 hI fr => ?_)
                    have fl15 : FR [70, 74] h h221 := by rw [g222]; exact FR_wI _ _ fl15 (by decide)
                    refine R_goto 125 rfl rfl ?_
                    refine N_iinc (a := x17.toInt) (c := (-1)) (fun w => [(4, .inl w), (3, .inl x16), (0, .inr (.inr (.inl 70))), (1, .inl a0), (2, .inl a1)]) rfl rfl (fun _ => rfl) (by decide) rfl (by decide) (by omega) (fun x223 q224 => ?_)
                    refine R_goto 35 rfl rfl ?_
                    exact RUN_weak (psub_cons rfl (psub_cons rfl (psub_cons rfl (psub_cons rfl (psub_cons rfl (psub_nil _)))))) (ih18 h221 x16 x223 hI fr fl15 (by omega) (by omega))
                · exfalso; omega
              · show RUN d_X2_step 61 [(4, .inl x17), (3, .inl x16), (0, .inr (.inr (.inl 70))), (1, .inl a0), (2, .inl a1)] [.inl x176] h14 _
                refine N_if_eq (a := x176.toInt) 67 rfl rfl rfl (fun c225 => ?_) (fun c225 => ?_)
                · exfalso; omega
                · refine R_goto 125 rfl rfl ?_
                  refine N_iinc (a := x17.toInt) (c := (-1)) (fun w => [(4, .inl w), (3, .inl x16), (0, .inr (.inr (.inl 70))), (1, .inl a0), (2, .inl a1)]) rfl rfl (fun _ => rfl) (by decide) rfl (by decide) (by omega) (fun x226 q227 => ?_)
                  refine R_goto 35 rfl rfl ?_
                  exact RUN_weak (psub_cons rfl (psub_cons rfl (psub_cons rfl (psub_cons rfl (psub_cons rfl (psub_nil _)))))) (ih18 h14 x16 x226 hI fr fl15 (by omega) (by omega))
      exact lp13 _ h (0 : Int32) x10 hI fr (FR.rf _ _) (by omega) (Nat.lt_succ_self _)
    · exfalso; omega
  · show RUN d_X2_step 12 [(0, .inr (.inr (.inl 70))), (1, .inl a0), (2, .inl a1)] [.inl x6] h _
    refine N_if_eq (a := x6.toInt) 25 rfl rfl rfl (fun c228 => ?_) (fun c228 => ?_)
    · exfalso; omega
    · refine R_aload_n (k := 0) rfl rfl rfl ?_
      refine R_dup_r rfl ?_
      refine R_getf_i (j := 8) rfl ft_2_38 sh_70 rfl ?_
      refine R_iconst 1 rfl rfl ?_
      have b229 := i_rng (h.1 70 8)
      refine R_iadd rfl ?_
      refine N_any (fun x230 => ?_)
      refine K_putf (j := 8) (lo := (-2147483648)) (hi' := 2147483647) rfl ft_2_38 sh_70 rfl hI (by decide) rfl (i_rng _) fr (by decide) (fun h231 g232 hI fr => ?_)
      have s233 : (h231.1 70 9).toInt = (h.1 70 9).toInt := by rw [g232, wI_at (by decide)]
      have s234 : (h231.1 70 7).toInt = (h.1 70 7).toInt := by rw [g232, wI_at (by decide)]
      have s235 : (h231.1 70 8).toInt = x230.toInt := by rw [g232, wI_is]
      refine R_iconst 0 rfl rfl ?_
      refine R_istore_n (k := 3) rfl [(3, .inl 0), (0, .inr (.inr (.inl 70))), (1, .inl a0), (2, .inl a1)] rfl rfl (by decide) ?_
      refine R_aload_n (k := 0) rfl rfl rfl ?_
      refine R_getf_i (j := 4) rfl ft_2_25 sh_70 rfl ?_
      have b236 : (0 : Int) ≤ (h231.1 70 4).toInt ∧ (h231.1 70 4).toInt ≤ 6 := hI.1 70 4
      refine R_iconst 1 rfl rfl ?_
      refine N_isub (a := (h231.1 70 4).toInt) (b := 1) rfl rfl (by decide) (by omega) (fun x237 q238 => ?_)
      refine R_istore (k := 4) [(4, .inl x237), (3, .inl 0), (0, .inr (.inr (.inl 70))), (1, .inl a0), (2, .inl a1)] rfl rfl (by decide) ?_
      have lp240 : ∀ (n239 : Nat) (h241 : PH) (x243 : Int32) (x244 : Int32), INV h241 → FR [70, 74] h h241 → FR [70, 74] h231 h241 → (-1) ≤ x244.toInt ∧ x244.toInt ≤ 5 → (x244.toInt - (-1)).toNat < n239 → RUN d_X2_step 35 [(4, .inl x244), (3, .inl x243), (0, .inr (.inr (.inl 70))), (1, .inl a0), (2, .inl a1)] [] h241 (q_X2_step h a0 a1) := by
        intro n239
        induction n239 with
        | zero => intro h241 x243 x244 m246 m247 m248 m249 hz; exact absurd hz (Nat.not_lt_zero _)
        | succ n239 ih245 =>
          intro h241 x243 x244 hI fr fl242 m249 hz
          refine R_iload (k := 4) rfl rfl ?_
          refine N_if_lt (a := x244.toInt) 131 rfl rfl rfl (fun c250 => ?_) (fun c250 => ?_)
          · refine R_aload_n (k := 0) rfl rfl rfl ?_
            refine R_getf_i (j := 4) rfl ft_2_25 sh_70 rfl ?_
            have b251 : (0 : Int) ≤ (h241.1 70 4).toInt ∧ (h241.1 70 4).toInt ≤ 6 := hI.1 70 4
            refine N_if_le (a := (h241.1 70 4).toInt) 184 rfl rfl rfl (fun c252 => ?_) (fun c252 => ?_)
            · refine R_aload_n (k := 0) rfl rfl rfl ?_
              refine R_aload_n (k := 0) rfl rfl rfl ?_
              refine R_getf_i (j := 9) rfl ft_2_41 sh_70 rfl ?_
              refine R_iconst 1 rfl rfl ?_
              refine R_ishl rfl ?_
              refine N_any (fun x253 => ?_)
              refine R_iconst 2 rfl rfl ?_
              refine R_aload_n (k := 0) rfl rfl rfl ?_
              refine R_getf_i (j := 7) rfl ft_2_35 sh_70 rfl ?_
              refine R_ishl rfl ?_
              refine N_any (fun x254 => ?_)
              refine R_iconst 1 rfl rfl ?_
              have b255 := i_rng x254
              refine R_isub rfl ?_
              refine N_any (fun x256 => ?_)
              refine R_iand rfl ?_
              refine N_any (fun x257 => ?_)
              refine K_putf (j := 9) (lo := (-2147483648)) (hi' := 2147483647) rfl ft_2_41 sh_70 rfl hI (by decide) rfl (i_rng _) fr (by decide) (fun h258 g259 hI fr => ?_)
              have fl242 : FR [70, 74] h231 h258 := by rw [g259]; exact FR_wI _ _ fl242 (by decide)
              have s260 : (h258.1 70 4).toInt = (h241.1 70 4).toInt := by rw [g259, wI_at (by decide)]
              have s261 : (h258.1 70 7).toInt = (h241.1 70 7).toInt := by rw [g259, wI_at (by decide)]
              have s262 : (h258.1 70 9).toInt = x257.toInt := by rw [g259, wI_is]
              refine R_aload_n (k := 0) rfl rfl rfl ?_
              refine R_iload_n (k := 3) rfl rfl rfl ?_
              refine R_callV (v := .inr (.inr (.inl 70))) (As := [.inl x243]) (rest := []) rfl mt_2_i77 pp_X2_isThrow (by decide) rfl rfl rfl (Nat.le_of_ble_eq_true rfl) (Nat.le_of_ble_eq_true rfl) ((k_X2_isThrow h258 hI x243).mono (fun r263 h264 p265 => ?_))
              obtain ⟨rfl, x266, rfl, q267 | q267 | q267⟩ := p265
              · show RUN d_X2_step 208 [(4, .inl x244), (3, .inl x243), (0, .inr (.inr (.inl 70))), (1, .inl a0), (2, .inl a1)] [.inl x266] h258 _
                refine N_if_eq (a := x266.toInt) 221 rfl rfl rfl (fun c268 => ?_) (fun c268 => ?_)
                · refine R_iload_n (k := 3) rfl rfl rfl ?_
                  exact R_iret rfl rfl rfl ⟨hI, fr, _, rfl, trivial⟩
                · exfalso; omega
              · exfalso; omega
              · exfalso; omega
            · refine R_aload_n (k := 0) rfl rfl rfl ?_
              refine R_getf_i (j := 8) rfl ft_2_38 sh_70 rfl ?_
              refine N_if_le (a := (h241.1 70 8).toInt) 184 rfl rfl rfl (fun c269 => ?_) (fun c269 => ?_)
              · refine R_aload_n (k := 0) rfl rfl rfl ?_
                refine R_aload_n (k := 0) rfl rfl rfl ?_
                refine R_getf_i (j := 9) rfl ft_2_41 sh_70 rfl ?_
                refine R_iconst 1 rfl rfl ?_
                refine R_ishl rfl ?_
                refine N_any (fun x270 => ?_)
                refine R_iconst 2 rfl rfl ?_
                refine R_aload_n (k := 0) rfl rfl rfl ?_
                refine R_getf_i (j := 7) rfl ft_2_35 sh_70 rfl ?_
                refine R_ishl rfl ?_
                refine N_any (fun x271 => ?_)
                refine R_iconst 1 rfl rfl ?_
                have b272 := i_rng x271
                refine R_isub rfl ?_
                refine N_any (fun x273 => ?_)
                refine R_iand rfl ?_
                refine N_any (fun x274 => ?_)
                refine K_putf (j := 9) (lo := (-2147483648)) (hi' := 2147483647) rfl ft_2_41 sh_70 rfl hI (by decide) rfl (i_rng _) fr (by decide) (fun h275 g276 hI fr => ?_)
                have fl242 : FR [70, 74] h231 h275 := by rw [g276]; exact FR_wI _ _ fl242 (by decide)
                have s277 : (h275.1 70 4).toInt = (h241.1 70 4).toInt := by rw [g276, wI_at (by decide)]
                have s278 : (h275.1 70 8).toInt = (h241.1 70 8).toInt := by rw [g276, wI_at (by decide)]
                have s279 : (h275.1 70 7).toInt = (h241.1 70 7).toInt := by rw [g276, wI_at (by decide)]
                have s280 : (h275.1 70 9).toInt = x274.toInt := by rw [g276, wI_is]
                refine R_aload_n (k := 0) rfl rfl rfl ?_
                refine R_iload_n (k := 3) rfl rfl rfl ?_
                refine R_callV (v := .inr (.inr (.inl 70))) (As := [.inl x243]) (rest := []) rfl mt_2_i77 pp_X2_isThrow (by decide) rfl rfl rfl (Nat.le_of_ble_eq_true rfl) (Nat.le_of_ble_eq_true rfl) ((k_X2_isThrow h275 hI x243).mono (fun r281 h282 p283 => ?_))
                obtain ⟨rfl, x284, rfl, q285 | q285 | q285⟩ := p283
                · exfalso; omega
                · show RUN d_X2_step 208 [(4, .inl x244), (3, .inl x243), (0, .inr (.inr (.inl 70))), (1, .inl a0), (2, .inl a1)] [.inl x284] h275 _
                  refine N_if_eq (a := x284.toInt) 221 rfl rfl rfl (fun c286 => ?_) (fun c286 => ?_)
                  · refine R_iload_n (k := 3) rfl rfl rfl ?_
                    exact R_iret rfl rfl rfl ⟨hI, fr, _, rfl, trivial⟩
                  · exfalso; omega
                · show RUN d_X2_step 208 [(4, .inl x244), (3, .inl x243), (0, .inr (.inr (.inl 70))), (1, .inl a0), (2, .inl a1)] [.inl x284] h275 _
                  refine N_if_eq (a := x284.toInt) 221 rfl rfl rfl (fun c287 => ?_) (fun c287 => ?_)
                  · exfalso; omega
                  · refine R_aload_n (k := 0) rfl rfl rfl ?_
                    refine R_dup_r rfl ?_
                    refine R_getf_i (j := 9) rfl ft_2_41 sh_70 rfl ?_
                    refine R_iconst 1 rfl rfl ?_
                    refine R_ior rfl ?_
                    refine N_any (fun x288 => ?_)
                    refine K_putf (j := 9) (lo := (-2147483648)) (hi' := 2147483647) rfl ft_2_41 sh_70 rfl hI (by decide) rfl (i_rng _) fr (by decide) (fun h289 g290 hI fr => ?_)
                    have fl242 : FR [70, 74] h231 h289 := by rw [g290]; exact FR_wI _ _ fl242 (by decide)
                    have s291 : (h289.1 70 4).toInt = (h275.1 70 4).toInt := by rw [g290, wI_at (by decide)]
                    have s292 : (h289.1 70 8).toInt = (h275.1 70 8).toInt := by rw [g290, wI_at (by decide)]
                    have s293 : (h289.1 70 7).toInt = (h275.1 70 7).toInt := by rw [g290, wI_at (by decide)]
                    have s294 : (h289.1 70 9).toInt = x288.toInt := by rw [g290, wI_is]
                    refine R_iload_n (k := 3) rfl rfl rfl ?_
                    exact R_iret rfl rfl rfl ⟨hI, fr, _, rfl, trivial⟩
              · refine R_aload_n (k := 0) rfl rfl rfl ?_
                refine R_getf_r (j := 3) rfl ft_2_22 sh_70 rfl ?_
                refine R_iconst 0 rfl rfl ?_
                refine R_iald rfl sh_74 (by decide) ?_
                show RUN d_X2_step 151 [(4, .inl x244), (3, .inl x243), (0, .inr (.inr (.inl 70))), (1, .inl a0), (2, .inl a1)] [.inl (h241.1 74 0)] h241 _
                refine N_if_ne (a := (h241.1 74 0).toInt) 184 rfl rfl rfl (fun c295 => ?_) (fun c295 => ?_)
                · refine R_aload_n (k := 0) rfl rfl rfl ?_
                  refine R_aload_n (k := 0) rfl rfl rfl ?_
                  refine R_getf_i (j := 9) rfl ft_2_41 sh_70 rfl ?_
                  refine R_iconst 1 rfl rfl ?_
                  refine R_ishl rfl ?_
                  refine N_any (fun x296 => ?_)
                  refine R_iconst 2 rfl rfl ?_
                  refine R_aload_n (k := 0) rfl rfl rfl ?_
                  refine R_getf_i (j := 7) rfl ft_2_35 sh_70 rfl ?_
                  refine R_ishl rfl ?_
                  refine N_any (fun x297 => ?_)
                  refine R_iconst 1 rfl rfl ?_
                  have b298 := i_rng x297
                  refine R_isub rfl ?_
                  refine N_any (fun x299 => ?_)
                  refine R_iand rfl ?_
                  refine N_any (fun x300 => ?_)
                  refine K_putf (j := 9) (lo := (-2147483648)) (hi' := 2147483647) rfl ft_2_41 sh_70 rfl hI (by decide) rfl (i_rng _) fr (by decide) (fun h301 g302 hI fr => ?_)
                  have fl242 : FR [70, 74] h231 h301 := by rw [g302]; exact FR_wI _ _ fl242 (by decide)
                  have s303 : (h301.1 70 4).toInt = (h241.1 70 4).toInt := by rw [g302, wI_at (by decide)]
                  have s304 : (h301.1 70 8).toInt = (h241.1 70 8).toInt := by rw [g302, wI_at (by decide)]
                  have s305 : (h301.1 74 0).toInt = (h241.1 74 0).toInt := by rw [g302, wI_ne _ _ _ (by decide)]
                  have s306 : (h301.1 70 7).toInt = (h241.1 70 7).toInt := by rw [g302, wI_at (by decide)]
                  have s307 : (h301.1 70 9).toInt = x300.toInt := by rw [g302, wI_is]
                  refine R_aload_n (k := 0) rfl rfl rfl ?_
                  refine R_iload_n (k := 3) rfl rfl rfl ?_
                  refine R_callV (v := .inr (.inr (.inl 70))) (As := [.inl x243]) (rest := []) rfl mt_2_i77 pp_X2_isThrow (by decide) rfl rfl rfl (Nat.le_of_ble_eq_true rfl) (Nat.le_of_ble_eq_true rfl) ((k_X2_isThrow h301 hI x243).mono (fun r308 h309 p310 => ?_))
                  obtain ⟨rfl, x311, rfl, q312 | q312 | q312⟩ := p310
                  · exfalso; omega
                  · show RUN d_X2_step 208 [(4, .inl x244), (3, .inl x243), (0, .inr (.inr (.inl 70))), (1, .inl a0), (2, .inl a1)] [.inl x311] h301 _
                    refine N_if_eq (a := x311.toInt) 221 rfl rfl rfl (fun c313 => ?_) (fun c313 => ?_)
                    · refine R_iload_n (k := 3) rfl rfl rfl ?_
                      exact R_iret rfl rfl rfl ⟨hI, fr, _, rfl, trivial⟩
                    · exfalso; omega
                  · show RUN d_X2_step 208 [(4, .inl x244), (3, .inl x243), (0, .inr (.inr (.inl 70))), (1, .inl a0), (2, .inl a1)] [.inl x311] h301 _
                    refine N_if_eq (a := x311.toInt) 221 rfl rfl rfl (fun c314 => ?_) (fun c314 => ?_)
                    · exfalso; omega
                    · refine R_aload_n (k := 0) rfl rfl rfl ?_
                      refine R_dup_r rfl ?_
                      refine R_getf_i (j := 9) rfl ft_2_41 sh_70 rfl ?_
                      refine R_iconst 1 rfl rfl ?_
                      refine R_ior rfl ?_
                      refine N_any (fun x315 => ?_)
                      refine K_putf (j := 9) (lo := (-2147483648)) (hi' := 2147483647) rfl ft_2_41 sh_70 rfl hI (by decide) rfl (i_rng _) fr (by decide) (fun h316 g317 hI fr => ?_)
                      have fl242 : FR [70, 74] h231 h316 := by rw [g317]; exact FR_wI _ _ fl242 (by decide)
                      have s318 : (h316.1 70 4).toInt = (h301.1 70 4).toInt := by rw [g317, wI_at (by decide)]
                      have s319 : (h316.1 70 8).toInt = (h301.1 70 8).toInt := by rw [g317, wI_at (by decide)]
                      have s320 : (h316.1 74 0).toInt = (h301.1 74 0).toInt := by rw [g317, wI_ne _ _ _ (by decide)]
                      have s321 : (h316.1 70 7).toInt = (h301.1 70 7).toInt := by rw [g317, wI_at (by decide)]
                      have s322 : (h316.1 70 9).toInt = x315.toInt := by rw [g317, wI_is]
                      refine R_iload_n (k := 3) rfl rfl rfl ?_
                      exact R_iret rfl rfl rfl ⟨hI, fr, _, rfl, trivial⟩
                · refine R_aload_n (k := 0) rfl rfl rfl ?_
                  refine R_getf_r (j := 2) rfl ft_2_18 sh_70 rfl ?_
                  refine R_iconst 0 rfl rfl ?_
                  refine R_lald rfl sh_73 (by decide) ?_
                  refine N_anyL (fun w323 => ?_)
                  refine R_iload_n (k := 1) rfl rfl rfl ?_
                  refine R_callS (As := [.inr (.inl w323), .inl a0]) (rest := []) rfl mt_2_i69 (by decide) pp_X8_hasBit (by decide) rfl rfl (Nat.le_of_ble_eq_true rfl) (Nat.le_of_ble_eq_true rfl) ((k_X8_hasBit h241 hI w323 a0).mono (fun r324 h325 p326 => ?_))
                  obtain ⟨rfl, x327, rfl, q328 | q328⟩ := p326
                  · show RUN d_X2_step 164 [(4, .inl x244), (3, .inl x243), (0, .inr (.inr (.inl 70))), (1, .inl a0), (2, .inl a1)] [.inl x327] h241 _
                    refine N_if_ne (a := x327.toInt) 184 rfl rfl rfl (fun c329 => ?_) (fun c329 => ?_)
                    · exfalso; omega
                    · refine R_aload_n (k := 0) rfl rfl rfl ?_
                      refine R_dup_r rfl ?_
                      refine R_getf_i (j := 8) rfl ft_2_38 sh_70 rfl ?_
                      refine R_iconst 1 rfl rfl ?_
                      have b330 := i_rng (h241.1 70 8)
                      refine N_isub (a := (h241.1 70 8).toInt) (b := 1) rfl rfl (by decide) (by omega) (fun x331 q332 => ?_)
                      refine K_putf (j := 8) (lo := (-2147483648)) (hi' := 2147483647) rfl ft_2_38 sh_70 rfl hI (by decide) rfl (i_rng _) fr (by decide) (fun h333 g334 hI fr => ?_)
                      have fl242 : FR [70, 74] h231 h333 := by rw [g334]; exact FR_wI _ _ fl242 (by decide)
                      have s335 : (h333.1 70 4).toInt = (h241.1 70 4).toInt := by rw [g334, wI_at (by decide)]
                      have s336 : (h333.1 74 0).toInt = (h241.1 74 0).toInt := by rw [g334, wI_ne _ _ _ (by decide)]
                      have s337 : (h333.1 70 8).toInt = x331.toInt := by rw [g334, wI_is]
                      refine R_aload_n (k := 0) rfl rfl rfl ?_
                      refine R_getf_r (j := 3) rfl ft_2_22 sh_70 rfl ?_
                      refine R_iconst 0 rfl rfl ?_
                      refine R_iconst 1 rfl rfl ?_
                      refine K_iast (a := 0) (lo := (-2147483648)) (hi' := 2147483647) rfl sh_74 (by decide) (by decide) hI (by decide) rfl (by decide) fr (by decide) (fun h338 g339 hI fr => ?_)
                      have fl242 : FR [70, 74] h231 h338 := by rw [g339]; exact FR_wI _ _ fl242 (by decide)
                      have s340 : (h338.1 70 4).toInt = (h333.1 70 4).toInt := by rw [g339, wI_ne _ _ _ (by decide)]
                      have s341 : (h338.1 70 8).toInt = (h333.1 70 8).toInt := by rw [g339, wI_ne _ _ _ (by decide)]
                      refine R_aload_n (k := 0) rfl rfl rfl ?_
                      refine R_aload_n (k := 0) rfl rfl rfl ?_
                      refine R_getf_i (j := 9) rfl ft_2_41 sh_70 rfl ?_
                      refine R_iconst 1 rfl rfl ?_
                      refine R_ishl rfl ?_
                      refine N_any (fun x342 => ?_)
                      refine R_iconst 2 rfl rfl ?_
                      refine R_aload_n (k := 0) rfl rfl rfl ?_
                      refine R_getf_i (j := 7) rfl ft_2_35 sh_70 rfl ?_
                      refine R_ishl rfl ?_
                      refine N_any (fun x343 => ?_)
                      refine R_iconst 1 rfl rfl ?_
                      have b344 := i_rng x343
                      refine R_isub rfl ?_
                      refine N_any (fun x345 => ?_)
                      refine R_iand rfl ?_
                      refine N_any (fun x346 => ?_)
                      refine K_putf (j := 9) (lo := (-2147483648)) (hi' := 2147483647) rfl ft_2_41 sh_70 rfl hI (by decide) rfl (i_rng _) fr (by decide) (fun h347 g348 hI fr => ?_)
                      have fl242 : FR [70, 74] h231 h347 := by rw [g348]; exact FR_wI _ _ fl242 (by decide)
                      have s349 : (h347.1 70 4).toInt = (h338.1 70 4).toInt := by rw [g348, wI_at (by decide)]
                      have s350 : (h347.1 70 8).toInt = (h338.1 70 8).toInt := by rw [g348, wI_at (by decide)]
                      have s351 : (h347.1 70 7).toInt = (h338.1 70 7).toInt := by rw [g348, wI_at (by decide)]
                      have s352 : (h347.1 70 9).toInt = x346.toInt := by rw [g348, wI_is]
                      refine R_aload_n (k := 0) rfl rfl rfl ?_
                      refine R_iload_n (k := 3) rfl rfl rfl ?_
                      refine R_callV (v := .inr (.inr (.inl 70))) (As := [.inl x243]) (rest := []) rfl mt_2_i77 pp_X2_isThrow (by decide) rfl rfl rfl (Nat.le_of_ble_eq_true rfl) (Nat.le_of_ble_eq_true rfl) ((k_X2_isThrow h347 hI x243).mono (fun r353 h354 p355 => ?_))
                      obtain ⟨rfl, x356, rfl, q357 | q357 | q357⟩ := p355
                      · exfalso; omega
                      · show RUN d_X2_step 208 [(4, .inl x244), (3, .inl x243), (0, .inr (.inr (.inl 70))), (1, .inl a0), (2, .inl a1)] [.inl x356] h347 _
                        refine N_if_eq (a := x356.toInt) 221 rfl rfl rfl (fun c358 => ?_) (fun c358 => ?_)
                        · refine R_iload_n (k := 3) rfl rfl rfl ?_
                          exact R_iret rfl rfl rfl ⟨hI, fr, _, rfl, trivial⟩
                        · exfalso; omega
                      · show RUN d_X2_step 208 [(4, .inl x244), (3, .inl x243), (0, .inr (.inr (.inl 70))), (1, .inl a0), (2, .inl a1)] [.inl x356] h347 _
                        refine N_if_eq (a := x356.toInt) 221 rfl rfl rfl (fun c359 => ?_) (fun c359 => ?_)
                        · exfalso; omega
                        · refine R_aload_n (k := 0) rfl rfl rfl ?_
                          refine R_dup_r rfl ?_
                          refine R_getf_i (j := 9) rfl ft_2_41 sh_70 rfl ?_
                          refine R_iconst 1 rfl rfl ?_
                          refine R_ior rfl ?_
                          refine N_any (fun x360 => ?_)
                          refine K_putf (j := 9) (lo := (-2147483648)) (hi' := 2147483647) rfl ft_2_41 sh_70 rfl hI (by decide) rfl (i_rng _) fr (by decide) (fun h361 g362 hI fr => ?_)
                          have fl242 : FR [70, 74] h231 h361 := by rw [g362]; exact FR_wI _ _ fl242 (by decide)
                          have s363 : (h361.1 70 4).toInt = (h347.1 70 4).toInt := by rw [g362, wI_at (by decide)]
                          have s364 : (h361.1 70 8).toInt = (h347.1 70 8).toInt := by rw [g362, wI_at (by decide)]
                          have s365 : (h361.1 70 7).toInt = (h347.1 70 7).toInt := by rw [g362, wI_at (by decide)]
                          have s366 : (h361.1 70 9).toInt = x360.toInt := by rw [g362, wI_is]
                          refine R_iload_n (k := 3) rfl rfl rfl ?_
                          exact R_iret rfl rfl rfl ⟨hI, fr, _, rfl, trivial⟩
                  · show RUN d_X2_step 164 [(4, .inl x244), (3, .inl x243), (0, .inr (.inr (.inl 70))), (1, .inl a0), (2, .inl a1)] [.inl x327] h241 _
                    refine N_if_ne (a := x327.toInt) 184 rfl rfl rfl (fun c367 => ?_) (fun c367 => ?_)
                    · refine R_aload_n (k := 0) rfl rfl rfl ?_
                      refine R_aload_n (k := 0) rfl rfl rfl ?_
                      refine R_getf_i (j := 9) rfl ft_2_41 sh_70 rfl ?_
                      refine R_iconst 1 rfl rfl ?_
                      refine R_ishl rfl ?_
                      refine N_any (fun x368 => ?_)
                      refine R_iconst 2 rfl rfl ?_
                      refine R_aload_n (k := 0) rfl rfl rfl ?_
                      refine R_getf_i (j := 7) rfl ft_2_35 sh_70 rfl ?_
                      refine R_ishl rfl ?_
                      refine N_any (fun x369 => ?_)
                      refine R_iconst 1 rfl rfl ?_
                      have b370 := i_rng x369
                      refine R_isub rfl ?_
                      refine N_any (fun x371 => ?_)
                      refine R_iand rfl ?_
                      refine N_any (fun x372 => ?_)
                      refine K_putf (j := 9) (lo := (-2147483648)) (hi' := 2147483647) rfl ft_2_41 sh_70 rfl hI (by decide) rfl (i_rng _) fr (by decide) (fun h373 g374 hI fr => ?_)
                      have fl242 : FR [70, 74] h231 h373 := by rw [g374]; exact FR_wI _ _ fl242 (by decide)
                      have s375 : (h373.1 70 4).toInt = (h241.1 70 4).toInt := by rw [g374, wI_at (by decide)]
                      have s376 : (h373.1 70 8).toInt = (h241.1 70 8).toInt := by rw [g374, wI_at (by decide)]
                      have s377 : (h373.1 74 0).toInt = (h241.1 74 0).toInt := by rw [g374, wI_ne _ _ _ (by decide)]
                      have s378 : (h373.1 70 7).toInt = (h241.1 70 7).toInt := by rw [g374, wI_at (by decide)]
                      have s379 : (h373.1 70 9).toInt = x372.toInt := by rw [g374, wI_is]
                      refine R_aload_n (k := 0) rfl rfl rfl ?_
                      refine R_iload_n (k := 3) rfl rfl rfl ?_
                      refine R_callV (v := .inr (.inr (.inl 70))) (As := [.inl x243]) (rest := []) rfl mt_2_i77 pp_X2_isThrow (by decide) rfl rfl rfl (Nat.le_of_ble_eq_true rfl) (Nat.le_of_ble_eq_true rfl) ((k_X2_isThrow h373 hI x243).mono (fun r380 h381 p382 => ?_))
                      obtain ⟨rfl, x383, rfl, q384 | q384 | q384⟩ := p382
                      · exfalso; omega
                      · show RUN d_X2_step 208 [(4, .inl x244), (3, .inl x243), (0, .inr (.inr (.inl 70))), (1, .inl a0), (2, .inl a1)] [.inl x383] h373 _
                        refine N_if_eq (a := x383.toInt) 221 rfl rfl rfl (fun c385 => ?_) (fun c385 => ?_)
                        · refine R_iload_n (k := 3) rfl rfl rfl ?_
                          exact R_iret rfl rfl rfl ⟨hI, fr, _, rfl, trivial⟩
                        · exfalso; omega
                      · show RUN d_X2_step 208 [(4, .inl x244), (3, .inl x243), (0, .inr (.inr (.inl 70))), (1, .inl a0), (2, .inl a1)] [.inl x383] h373 _
                        refine N_if_eq (a := x383.toInt) 221 rfl rfl rfl (fun c386 => ?_) (fun c386 => ?_)
                        · exfalso; omega
                        · refine R_aload_n (k := 0) rfl rfl rfl ?_
                          refine R_dup_r rfl ?_
                          refine R_getf_i (j := 9) rfl ft_2_41 sh_70 rfl ?_
                          refine R_iconst 1 rfl rfl ?_
                          refine R_ior rfl ?_
                          refine N_any (fun x387 => ?_)
                          refine K_putf (j := 9) (lo := (-2147483648)) (hi' := 2147483647) rfl ft_2_41 sh_70 rfl hI (by decide) rfl (i_rng _) fr (by decide) (fun h388 g389 hI fr => ?_)
                          have fl242 : FR [70, 74] h231 h388 := by rw [g389]; exact FR_wI _ _ fl242 (by decide)
                          have s390 : (h388.1 70 4).toInt = (h373.1 70 4).toInt := by rw [g389, wI_at (by decide)]
                          have s391 : (h388.1 70 8).toInt = (h373.1 70 8).toInt := by rw [g389, wI_at (by decide)]
                          have s392 : (h388.1 74 0).toInt = (h373.1 74 0).toInt := by rw [g389, wI_ne _ _ _ (by decide)]
                          have s393 : (h388.1 70 7).toInt = (h373.1 70 7).toInt := by rw [g389, wI_at (by decide)]
                          have s394 : (h388.1 70 9).toInt = x387.toInt := by rw [g389, wI_is]
                          refine R_iload_n (k := 3) rfl rfl rfl ?_
                          exact R_iret rfl rfl rfl ⟨hI, fr, _, rfl, trivial⟩
                    · exfalso; omega
          · refine R_aload_n (k := 0) rfl rfl rfl ?_
            refine R_getf_r (j := 3) rfl ft_2_22 sh_70 rfl ?_
            refine R_iload (k := 4) rfl rfl ?_
            refine R_iald rfl sh_74 ⟨by omega, by omega⟩ ?_
            refine N_any (fun x395 => ?_)
            refine N_if_eq (a := x395.toInt) 125 rfl rfl rfl (fun c396 => ?_) (fun c396 => ?_)
            · refine N_iinc (a := x244.toInt) (c := (-1)) (fun w => [(4, .inl w), (3, .inl x243), (0, .inr (.inr (.inl 70))), (1, .inl a0), (2, .inl a1)]) rfl rfl (fun _ => rfl) (by decide) rfl (by decide) (by omega) (fun x397 q398 => ?_)
              refine R_goto 35 rfl rfl ?_
              exact RUN_weak (psub_cons rfl (psub_cons rfl (psub_cons rfl (psub_cons rfl (psub_cons rfl (psub_nil _)))))) (ih245 h241 x243 x397 hI fr fl242 (by omega) (by omega))
            · refine R_aload_n (k := 0) rfl rfl rfl ?_
              refine R_getf_r (j := 2) rfl ft_2_18 sh_70 rfl ?_
              refine R_iload (k := 4) rfl rfl ?_
              refine R_lald rfl sh_73 ⟨by omega, by omega⟩ ?_
              refine N_anyL (fun w399 => ?_)
              refine R_iload_n (k := 1) rfl rfl rfl ?_
              refine R_callS (As := [.inr (.inl w399), .inl a0]) (rest := []) rfl mt_2_i69 (by decide) pp_X8_hasBit (by decide) rfl rfl (Nat.le_of_ble_eq_true rfl) (Nat.le_of_ble_eq_true rfl) ((k_X8_hasBit h241 hI w399 a0).mono (fun r400 h401 p402 => ?_))
              obtain ⟨rfl, x403, rfl, q404 | q404⟩ := p402
              · show RUN d_X2_step 61 [(4, .inl x244), (3, .inl x243), (0, .inr (.inr (.inl 70))), (1, .inl a0), (2, .inl a1)] [.inl x403] h241 _
                refine N_if_eq (a := x403.toInt) 67 rfl rfl rfl (fun c405 => ?_) (fun c405 => ?_)
                · refine R_aload_n (k := 0) rfl rfl rfl ?_
                  refine R_getf_r (j := 3) rfl ft_2_22 sh_70 rfl ?_
                  refine R_iload (k := 4) rfl rfl ?_
                  refine R_iald rfl sh_74 ⟨by omega, by omega⟩ ?_
                  refine N_any (fun x406 => ?_)
                  refine R_aload_n (k := 0) rfl rfl rfl ?_
                  refine R_getf_r (j := 0) rfl ft_2_9 sh_70 rfl ?_
                  refine R_iload (k := 4) rfl rfl ?_
                  refine R_iald rfl sh_71 ⟨by omega, by omega⟩ ?_
                  refine N_any (fun x407 => ?_)
                  refine N_icmp_ge (a := x406.toInt) (b := x407.toInt) 98 rfl rfl rfl rfl (fun c408 => ?_) (fun c408 => ?_)
                  · refine R_iload_n (k := 2) rfl rfl rfl ?_
                    refine N_if_ne (a := a1.toInt) 125 rfl rfl rfl (fun c409 => ?_) (fun c409 => ?_)
                    · refine N_iinc (a := x244.toInt) (c := (-1)) (fun w => [(4, .inl w), (3, .inl x243), (0, .inr (.inr (.inl 70))), (1, .inl a0), (2, .inl a1)]) rfl rfl (fun _ => rfl) (by decide) rfl (by decide) (by omega) (fun x410 q411 => ?_)
                      refine R_goto 35 rfl rfl ?_
                      exact RUN_weak (psub_cons rfl (psub_cons rfl (psub_cons rfl (psub_cons rfl (psub_cons rfl (psub_nil _)))))) (ih245 h241 x243 x410 hI fr fl242 (by omega) (by omega))
                    · refine R_aload_n (k := 0) rfl rfl rfl ?_
                      refine R_iload (k := 4) rfl rfl ?_
                      refine R_iload_n (k := 1) rfl rfl rfl ?_
                      refine R_callV (v := .inr (.inr (.inl 70))) (As := [.inl x244, .inl a0]) (rest := []) rfl mt_2_i80 pp_X2_nextIsFree (by decide) rfl rfl rfl (Nat.le_of_ble_eq_true rfl) (Nat.le_of_ble_eq_true rfl) ((k_X2_nextIsFree h241 hI x244 a0 (by omega) (by omega)).mono (fun r412 h413 p414 => ?_))
                      obtain ⟨rfl, x415, rfl, q416 | q416 | q416⟩ := p414
                      · have b417 : (0 : Int) ≤ (h241.1 70 4).toInt ∧ (h241.1 70 4).toInt ≤ 6 := hI.1 70 4
                        show RUN d_X2_step 109 [(4, .inl x244), (3, .inl x243), (0, .inr (.inr (.inl 70))), (1, .inl a0), (2, .inl a1)] [.inl x415] h241 _
                        refine N_if_eq (a := x415.toInt) 125 rfl rfl rfl (fun c418 => ?_) (fun c418 => ?_)
                        · exfalso; omega
                        · refine R_aload_n (k := 0) rfl rfl rfl ?_
                          refine R_iload (k := 4) rfl rfl ?_
                          refine R_callV (v := .inr (.inr (.inl 70))) (As := [.inl x244]) (rest := []) rfl mt_2_i84 pp_X2_passOn (by decide) rfl rfl rfl (Nat.le_of_ble_eq_true rfl) (Nat.le_of_ble_eq_true rfl) ((k_X2_passOn h241 hI x244 (by omega)).mono (fun r419 h420 p421 => ?_))
                          obtain ⟨hJ, fj, rfl⟩ := p421
                          have f422 := fj
                          have fr := fr.trans fj (by decide)
                          have hI := hJ
                          have fl242 : FR [70, 74] h231 h420 := fl242.trans fj (by decide)
                          have s423 : (h420.1 70 4).toInt = (h241.1 70 4).toInt := by rw [(f422 70 (by decide)).1]
                          show RUN d_X2_step 118 [(4, .inl x244), (3, .inl x243), (0, .inr (.inr (.inl 70))), (1, .inl a0), (2, .inl a1)] [] h420 _
                          refine R_iload_n (k := 3) rfl rfl rfl ?_
                          refine R_iconst 1 rfl rfl ?_
                          refine R_iload (k := 4) rfl rfl ?_
                          refine N_ishl1 (b := x244.toInt) rfl rfl (by omega) (fun x424 q425 => ?_)
                          refine R_ior rfl ?_
                          refine N_any (fun x426 => ?_)
                          refine R_istore_n (k := 3) rfl [(3, .inl x426), (4, .inl x244), (0, .inr (.inr (.inl 70))), (1, .inl a0), (2, .inl a1)] rfl rfl (by decide) ?_
                          refine N_iinc (a := x244.toInt) (c := (-1)) (fun w => [(4, .inl w), (3, .inl x426), (0, .inr (.inr (.inl 70))), (1, .inl a0), (2, .inl a1)]) rfl rfl (fun _ => rfl) (by decide) rfl (by decide) (by omega) (fun x427 q428 => ?_)
                          refine R_goto 35 rfl rfl ?_
                          exact RUN_weak (psub_cons rfl (psub_cons rfl (psub_cons rfl (psub_cons rfl (psub_cons rfl (psub_nil _)))))) (ih245 h420 x426 x427 hI fr fl242 (by omega) (by omega))
                      · have b429 : (0 : Int) ≤ (h241.1 70 4).toInt ∧ (h241.1 70 4).toInt ≤ 6 := hI.1 70 4
                        show RUN d_X2_step 109 [(4, .inl x244), (3, .inl x243), (0, .inr (.inr (.inl 70))), (1, .inl a0), (2, .inl a1)] [.inl x415] h241 _
                        refine N_if_eq (a := x415.toInt) 125 rfl rfl rfl (fun c430 => ?_) (fun c430 => ?_)
                        · refine N_iinc (a := x244.toInt) (c := (-1)) (fun w => [(4, .inl w), (3, .inl x243), (0, .inr (.inr (.inl 70))), (1, .inl a0), (2, .inl a1)]) rfl rfl (fun _ => rfl) (by decide) rfl (by decide) (by omega) (fun x431 q432 => ?_)
                          refine R_goto 35 rfl rfl ?_
                          exact RUN_weak (psub_cons rfl (psub_cons rfl (psub_cons rfl (psub_cons rfl (psub_cons rfl (psub_nil _)))))) (ih245 h241 x243 x431 hI fr fl242 (by omega) (by omega))
                        · exfalso; omega
                      · have b433 : (0 : Int) ≤ (h241.1 70 4).toInt ∧ (h241.1 70 4).toInt ≤ 6 := hI.1 70 4
                        show RUN d_X2_step 109 [(4, .inl x244), (3, .inl x243), (0, .inr (.inr (.inl 70))), (1, .inl a0), (2, .inl a1)] [.inl x415] h241 _
                        refine N_if_eq (a := x415.toInt) 125 rfl rfl rfl (fun c434 => ?_) (fun c434 => ?_)
                        · exfalso; omega
                        · refine R_aload_n (k := 0) rfl rfl rfl ?_
                          refine R_iload (k := 4) rfl rfl ?_
                          refine R_callV (v := .inr (.inr (.inl 70))) (As := [.inl x244]) (rest := []) rfl mt_2_i84 pp_X2_passOn (by decide) rfl rfl rfl (Nat.le_of_ble_eq_true rfl) (Nat.le_of_ble_eq_true rfl) ((k_X2_passOn h241 hI x244 (by omega)).mono (fun r435 h436 p437 => ?_))
                          obtain ⟨hJ, fj, rfl⟩ := p437
                          have f438 := fj
                          have fr := fr.trans fj (by decide)
                          have hI := hJ
                          have fl242 : FR [70, 74] h231 h436 := fl242.trans fj (by decide)
                          have s439 : (h436.1 70 4).toInt = (h241.1 70 4).toInt := by rw [(f438 70 (by decide)).1]
                          show RUN d_X2_step 118 [(4, .inl x244), (3, .inl x243), (0, .inr (.inr (.inl 70))), (1, .inl a0), (2, .inl a1)] [] h436 _
                          refine R_iload_n (k := 3) rfl rfl rfl ?_
                          refine R_iconst 1 rfl rfl ?_
                          refine R_iload (k := 4) rfl rfl ?_
                          refine N_ishl1 (b := x244.toInt) rfl rfl (by omega) (fun x440 q441 => ?_)
                          refine R_ior rfl ?_
                          refine N_any (fun x442 => ?_)
                          refine R_istore_n (k := 3) rfl [(3, .inl x442), (4, .inl x244), (0, .inr (.inr (.inl 70))), (1, .inl a0), (2, .inl a1)] rfl rfl (by decide) ?_
                          refine N_iinc (a := x244.toInt) (c := (-1)) (fun w => [(4, .inl w), (3, .inl x442), (0, .inr (.inr (.inl 70))), (1, .inl a0), (2, .inl a1)]) rfl rfl (fun _ => rfl) (by decide) rfl (by decide) (by omega) (fun x443 q444 => ?_)
                          refine R_goto 35 rfl rfl ?_
                          exact RUN_weak (psub_cons rfl (psub_cons rfl (psub_cons rfl (psub_cons rfl (psub_cons rfl (psub_nil _)))))) (ih245 h436 x442 x443 hI fr fl242 (by omega) (by omega))
                  · refine R_aload_n (k := 0) rfl rfl rfl ?_
                    refine R_getf_r (j := 3) rfl ft_2_22 sh_70 rfl ?_
                    refine R_iload (k := 4) rfl rfl ?_
                    refine R_dup2 rfl ?_
                    refine R_iald rfl sh_74 ⟨by omega, by omega⟩ ?_
                    refine N_any (fun x445 => ?_)
                    refine R_iconst 1 rfl rfl ?_
                    have b446 := i_rng x445
                    refine R_iadd rfl ?_
                    refine N_any (fun x447 => ?_)
                    refine K_iast (a := x244.toInt) (lo := (-2147483648)) (hi' := 2147483647) rfl sh_74 rfl ⟨by omega, by omega⟩ hI (by decide) rfl (i_rng _) fr (by decide) (fun h448 g449 hI fr => ?_)
                    have fl242 : FR [70, 74] h231 h448 := by rw [g449]; exact FR_wI _ _ fl242 (by decide)
                    refine R_goto 125 rfl rfl ?_
                    refine N_iinc (a := x244.toInt) (c := (-1)) (fun w => [(4, .inl w), (3, .inl x243), (0, .inr (.inr (.inl 70))), (1, .inl a0), (2, .inl a1)]) rfl rfl (fun _ => rfl) (by decide) rfl (by decide) (by omega) (fun x450 q451 => ?_)
                    refine R_goto 35 rfl rfl ?_
                    exact RUN_weak (psub_cons rfl (psub_cons rfl (psub_cons rfl (psub_cons rfl (psub_cons rfl (psub_nil _)))))) (ih245 h448 x243 x450 hI fr fl242 (by omega) (by omega))
                · exfalso; omega
              · show RUN d_X2_step 61 [(4, .inl x244), (3, .inl x243), (0, .inr (.inr (.inl 70))), (1, .inl a0), (2, .inl a1)] [.inl x403] h241 _
                refine N_if_eq (a := x403.toInt) 67 rfl rfl rfl (fun c452 => ?_) (fun c452 => ?_)
                · exfalso; omega
                · refine R_goto 125 rfl rfl ?_
                  refine N_iinc (a := x244.toInt) (c := (-1)) (fun w => [(4, .inl w), (3, .inl x243), (0, .inr (.inr (.inl 70))), (1, .inl a0), (2, .inl a1)]) rfl rfl (fun _ => rfl) (by decide) rfl (by decide) (by omega) (fun x453 q454 => ?_)
                  refine R_goto 35 rfl rfl ?_
                  exact RUN_weak (psub_cons rfl (psub_cons rfl (psub_cons rfl (psub_cons rfl (psub_cons rfl (psub_nil _)))))) (ih245 h241 x243 x453 hI fr fl242 (by omega) (by omega))
      exact lp240 _ h231 (0 : Int32) x237 hI fr (FR.rf _ _) (by omega) (Nat.lt_succ_self _)
