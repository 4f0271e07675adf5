abbrev q_X9_good (h : PH)  : Option PV → PH → Prop := fun r h' => h = h' ∧ ∃ z : Int32, r = some (.inl z) ∧ ((z.toInt = 0 ∧ 1 ≤ (h.1 96 12).toInt ∧ (h.1 96 12).toInt ≤ 3) ∨ (z.toInt = 1 ∧ (h.1 96 12).toInt = 0))
set_option maxHeartbeats 4000000 in
set_option maxRecDepth 100000 in
theorem k_X9_good (h : PH) (hI : INV h)  : CALL d_X9_good [.inr (.inr (.inl 96))] h (q_X9_good h) := by
  show RUN d_X9_good 0 [(0, .inr (.inr (.inl 96)))] [] h _
  refine R_aload_n (k := 0) rfl rfl rfl ?_
  refine R_getf_i (j := 12) rfl ft_9_173 sh_96 rfl ?_
  have b1 : (0 : Int) ≤ (h.1 96 12).toInt ∧ (h.1 96 12).toInt ≤ 3 := hI.1 96 12
  refine N_if_ne (a := (h.1 96 12).toInt) 11 rfl rfl rfl (fun c2 => ?_) (fun c2 => ?_)
  · refine R_iconst 0 rfl rfl ?_
    exact R_iret rfl rfl rfl ⟨rfl, _, rfl, by rw [show (0 : Int32).toInt = 0 from rfl] <;> omega⟩
  · refine R_iconst 1 rfl rfl ?_
    refine R_goto 12 rfl rfl ?_
    exact R_iret rfl rfl rfl ⟨rfl, _, rfl, by rw [show (1 : Int32).toInt = 1 from rfl] <;> omega⟩
abbrev q_X8_fault (h : PH) (a0 : Int32) : Option PV → PH → Prop := fun r h' => h = h' ∧ ∃ z : Int32, r = some (.inl z) ∧ ((True))
set_option maxHeartbeats 4000000 in
set_option maxRecDepth 100000 in
theorem k_X8_fault (h : PH) (hI : INV h) (a0 : Int32) : CALL d_X8_fault [.inr (.inr (.inl 0)), .inl a0] h (q_X8_fault h a0) := by
  show RUN d_X8_fault 0 [(0, .inr (.inr (.inl 0))), (1, .inl a0)] [] h _
  have b1 := i_rng a0
  refine R_iload_n (k := 1) rfl rfl rfl ?_
  refine N_if_ne (a := a0.toInt) 12 rfl rfl rfl (fun c2 => ?_) (fun c2 => ?_)
  · refine R_iload_n (k := 1) rfl rfl rfl ?_
    refine R_iconst 1 rfl rfl ?_
    refine N_icmp_ne (a := a0.toInt) (b := 1) 27 rfl rfl rfl (by decide) (fun c3 => ?_) (fun c3 => ?_)
    · refine R_iconst (-1) rfl rfl ?_
      exact R_iret rfl rfl rfl ⟨rfl, _, rfl, trivial⟩
    · refine R_aload_n (k := 0) rfl rfl rfl ?_
      refine R_getf_r (j := 0) rfl ft_8_10 sh_0 rfl ?_
      refine R_getf_i (j := 2) rfl ft_8_116 sh_1 rfl ?_
      refine R_goto 28 rfl rfl ?_
      exact R_iret rfl rfl rfl ⟨rfl, _, rfl, trivial⟩
  · refine R_aload_n (k := 0) rfl rfl rfl ?_
    refine R_getf_r (j := 0) rfl ft_8_10 sh_0 rfl ?_
    refine R_getf_i (j := 1) rfl ft_8_113 sh_1 rfl ?_
    have b4 : (0 : Int) ≤ (h.1 1 1).toInt ∧ (h.1 1 1).toInt ≤ 3 := hI.1 1 1
    exact R_iret rfl rfl rfl ⟨rfl, _, rfl, trivial⟩
abbrev q_X9_fault (h : PH) (a0 : Int32) : Option PV → PH → Prop := fun r h' => h = h' ∧ ∃ z : Int32, r = some (.inl z) ∧ ((True))
set_option maxHeartbeats 4000000 in
set_option maxRecDepth 100000 in
theorem k_X9_fault (h : PH) (hI : INV h) (a0 : Int32) : CALL d_X9_fault [.inr (.inr (.inl 96)), .inl a0] h (q_X9_fault h a0) := by
  show RUN d_X9_fault 0 [(0, .inr (.inr (.inl 96))), (1, .inl a0)] [] h _
  have b1 := i_rng a0
  refine R_iload_n (k := 1) rfl rfl rfl ?_
  refine N_if_ne (a := a0.toInt) 11 rfl rfl rfl (fun c2 => ?_) (fun c2 => ?_)
  · refine R_iload_n (k := 1) rfl rfl rfl ?_
    refine R_iconst 1 rfl rfl ?_
    refine N_icmp_ne (a := a0.toInt) (b := 1) 23 rfl rfl rfl (by decide) (fun c3 => ?_) (fun c3 => ?_)
    · refine R_iconst (-1) rfl rfl ?_
      exact R_iret rfl rfl rfl ⟨rfl, _, rfl, trivial⟩
    · refine R_aload_n (k := 0) rfl rfl rfl ?_
      refine R_getf_i (j := 13) rfl ft_9_27 sh_96 rfl ?_
      refine R_goto 24 rfl rfl ?_
      exact R_iret rfl rfl rfl ⟨rfl, _, rfl, trivial⟩
  · refine R_aload_n (k := 0) rfl rfl rfl ?_
    refine R_getf_i (j := 12) rfl ft_9_173 sh_96 rfl ?_
    have b4 : (0 : Int) ≤ (h.1 96 12).toInt ∧ (h.1 96 12).toInt ≤ 3 := hI.1 96 12
    refine R_goto 24 rfl rfl ?_
    exact R_iret rfl rfl rfl ⟨rfl, _, rfl, trivial⟩
abbrev q_X1_hasHand (h : PH) (a0 : Int32) : Option PV → PH → Prop := fun r h' => h = h' ∧ ∃ z : Int32, r = some (.inl z) ∧ ((z.toInt = 0 ∧ a0.toInt ≤ (-1)) ∨ (z.toInt = 0 ∧ 0 ≤ a0.toInt ∧ (h.1 17 5).toInt ≤ a0.toInt + 0) ∨ (z.toInt = 1 ∧ 0 ≤ a0.toInt ∧ a0.toInt ≤ 5 ∧ 1 ≤ (h.1 17 5).toInt ∧ (h.1 17 5).toInt ≤ 6 ∧ a0.toInt ≤ (h.1 17 5).toInt + (-1)))
set_option maxHeartbeats 4000000 in
set_option maxRecDepth 100000 in
theorem k_X1_hasHand (h : PH) (hI : INV h) (a0 : Int32) : CALL d_X1_hasHand [.inr (.inr (.inl 16)), .inl a0] h (q_X1_hasHand h a0) := by
  show RUN d_X1_hasHand 0 [(0, .inr (.inr (.inl 16))), (1, .inl a0)] [] h _
  have b1 := i_rng a0
  refine R_iload_n (k := 1) rfl rfl rfl ?_
  refine N_if_lt (a := a0.toInt) 18 rfl rfl rfl (fun c2 => ?_) (fun c2 => ?_)
  · refine R_iconst 0 rfl rfl ?_
    exact R_iret rfl rfl rfl ⟨rfl, _, rfl, by rw [show (0 : Int32).toInt = 0 from rfl] <;> omega⟩
  · refine R_iload_n (k := 1) rfl rfl rfl ?_
    refine R_aload_n (k := 0) rfl rfl rfl ?_
    refine R_getf_r (j := 0) rfl ft_1_9 sh_16 rfl ?_
    refine R_iconst 5 rfl rfl ?_
    refine R_iald rfl sh_17 (by decide) ?_
    have b3 : (0 : Int) ≤ (h.1 17 5).toInt ∧ (h.1 17 5).toInt ≤ 6 := hI.1 17 5
    show RUN d_X1_hasHand 11 [(0, .inr (.inr (.inl 16))), (1, .inl a0)] [.inl (h.1 17 5), .inl a0] h _
    refine N_icmp_ge (a := a0.toInt) (b := (h.1 17 5).toInt) 18 rfl rfl rfl rfl (fun c4 => ?_) (fun c4 => ?_)
    · refine R_iconst 0 rfl rfl ?_
      exact R_iret rfl rfl rfl ⟨rfl, _, rfl, by rw [show (0 : Int32).toInt = 0 from rfl] <;> omega⟩
    · refine R_iconst 1 rfl rfl ?_
      refine R_goto 19 rfl rfl ?_
      exact R_iret rfl rfl rfl ⟨rfl, _, rfl, by rw [show (1 : Int32).toInt = 1 from rfl] <;> omega⟩
abbrev q_X8_isEither (h : PH) (a0 : Int32) : Option PV → PH → Prop := fun r h' => h = h' ∧ ∃ z : Int32, r = some (.inl z) ∧ ((z.toInt = 1 ∧ a0.toInt = 0) ∨ (z.toInt = 0) ∨ (z.toInt = 1 ∧ a0.toInt = 1))
set_option maxHeartbeats 4000000 in
set_option maxRecDepth 100000 in
theorem k_X8_isEither (h : PH) (hI : INV h) (a0 : Int32) : CALL d_X8_isEither [.inl a0] h (q_X8_isEither h a0) := by
  show RUN d_X8_isEither 0 [(0, .inl a0)] [] h _
  have b1 := i_rng a0
  refine R_iload_n (k := 0) rfl rfl rfl ?_
  refine N_if_eq (a := a0.toInt) 9 rfl rfl rfl (fun c2 => ?_) (fun c2 => ?_)
  · refine R_iconst 1 rfl rfl ?_
    refine R_goto 14 rfl rfl ?_
    exact R_iret rfl rfl rfl ⟨rfl, _, rfl, by rw [show (1 : Int32).toInt = 1 from rfl] <;> omega⟩
  · refine R_iload_n (k := 0) rfl rfl rfl ?_
    refine R_iconst 1 rfl rfl ?_
    refine N_icmp_ne (a := a0.toInt) (b := 1) 13 rfl rfl rfl (by decide) (fun c3 => ?_) (fun c3 => ?_)
    · refine R_iconst 0 rfl rfl ?_
      exact R_iret rfl rfl rfl ⟨rfl, _, rfl, by rw [show (0 : Int32).toInt = 0 from rfl] <;> omega⟩
    · refine R_iconst 1 rfl rfl ?_
      refine R_goto 14 rfl rfl ?_
      exact R_iret rfl rfl rfl ⟨rfl, _, rfl, by rw [show (1 : Int32).toInt = 1 from rfl] <;> omega⟩
abbrev q_X8_hand (h : PH) (a0 : Int32) (a1 : Int32) : Option PV → PH → Prop := fun r h' => h = h' ∧ ∃ z : Int32, r = some (.inl z) ∧ ((True))
set_option maxHeartbeats 4000000 in
set_option maxRecDepth 100000 in
theorem k_X8_hand (h : PH) (hI : INV h) (a0 : Int32) (a1 : Int32) : CALL d_X8_hand [.inr (.inr (.inl 0)), .inl a0, .inl a1] h (q_X8_hand h a0 a1) := by
  show RUN d_X8_hand 0 [(0, .inr (.inr (.inl 0))), (1, .inl a0), (2, .inl a1)] [] h _
  have b1 := i_rng a0
  have b2 := i_rng a1
  refine R_aload_n (k := 0) rfl rfl rfl ?_
  refine R_getf_r (j := 3) rfl ft_8_28 sh_0 rfl ?_
  refine R_iload_n (k := 1) rfl rfl rfl ?_
  have b3 : (0 : Int) ≤ (h.1 17 5).toInt ∧ (h.1 17 5).toInt ≤ 6 := hI.1 17 5
  refine R_callV (v := .inr (.inr (.inl 16))) (As := [.inl a0]) (rest := []) rfl mt_8_i119 pp_X1_hasHand (by decide) rfl rfl rfl (Nat.le_of_ble_eq_true rfl) (Nat.le_of_ble_eq_true rfl) ((k_X1_hasHand h hI a0).mono (fun r4 h5 p6 => ?_))
  obtain ⟨rfl, x7, rfl, q8 | q8 | q8⟩ := p6
  · show RUN d_X8_hand 8 [(0, .inr (.inr (.inl 0))), (1, .inl a0), (2, .inl a1)] [.inl x7] h _
    refine N_if_eq (a := x7.toInt) 18 rfl rfl rfl (fun c9 => ?_) (fun c9 => ?_)
    · refine R_bipush (-2) rfl rfl ?_
      exact R_iret rfl rfl rfl ⟨rfl, _, rfl, trivial⟩
    · exfalso; omega
  · show RUN d_X8_hand 8 [(0, .inr (.inr (.inl 0))), (1, .inl a0), (2, .inl a1)] [.inl x7] h _
    refine N_if_eq (a := x7.toInt) 18 rfl rfl rfl (fun c10 => ?_) (fun c10 => ?_)
    · refine R_bipush (-2) rfl rfl ?_
      exact R_iret rfl rfl rfl ⟨rfl, _, rfl, trivial⟩
    · exfalso; omega
  · show RUN d_X8_hand 8 [(0, .inr (.inr (.inl 0))), (1, .inl a0), (2, .inl a1)] [.inl x7] h _
    refine N_if_eq (a := x7.toInt) 18 rfl rfl rfl (fun c11 => ?_) (fun c11 => ?_)
    · exfalso; omega
    · refine R_iload_n (k := 2) rfl rfl rfl ?_
      refine R_callS (As := [.inl a1]) (rest := []) rfl mt_8_i122 (by decide) pp_X8_isEither (by decide) rfl rfl (Nat.le_of_ble_eq_true rfl) (Nat.le_of_ble_eq_true rfl) ((k_X8_isEither h hI a1).mono (fun r12 h13 p14 => ?_))
      obtain ⟨rfl, x15, rfl, q16 | q16 | q16⟩ := p14
      · show RUN d_X8_hand 15 [(0, .inr (.inr (.inl 0))), (1, .inl a0), (2, .inl a1)] [.inl x15] h _
        refine N_if_ne (a := x15.toInt) 21 rfl rfl rfl (fun c17 => ?_) (fun c17 => ?_)
        · refine R_iload_n (k := 2) rfl rfl rfl ?_
          refine N_if_ne (a := a1.toInt) 37 rfl rfl rfl (fun c18 => ?_) (fun c18 => ?_)
          · exfalso; omega
          · refine R_aload_n (k := 0) rfl rfl rfl ?_
            refine R_getf_r (j := 3) rfl ft_8_28 sh_0 rfl ?_
            refine R_getf_r (j := 2) rfl ft_8_125 sh_16 rfl ?_
            refine R_iload_n (k := 1) rfl rfl rfl ?_
            refine R_iald rfl sh_19 ⟨by omega, by omega⟩ ?_
            refine N_any (fun x19 => ?_)
            refine R_goto 46 rfl rfl ?_
            exact R_iret rfl rfl rfl ⟨rfl, _, rfl, trivial⟩
        · exfalso; omega
      · show RUN d_X8_hand 15 [(0, .inr (.inr (.inl 0))), (1, .inl a0), (2, .inl a1)] [.inl x15] h _
        refine N_if_ne (a := x15.toInt) 21 rfl rfl rfl (fun c20 => ?_) (fun c20 => ?_)
        · exfalso; omega
        · refine R_bipush (-2) rfl rfl ?_
          exact R_iret rfl rfl rfl ⟨rfl, _, rfl, trivial⟩
      · show RUN d_X8_hand 15 [(0, .inr (.inr (.inl 0))), (1, .inl a0), (2, .inl a1)] [.inl x15] h _
        refine N_if_ne (a := x15.toInt) 21 rfl rfl rfl (fun c21 => ?_) (fun c21 => ?_)
        · refine R_iload_n (k := 2) rfl rfl rfl ?_
          refine N_if_ne (a := a1.toInt) 37 rfl rfl rfl (fun c22 => ?_) (fun c22 => ?_)
          · refine R_aload_n (k := 0) rfl rfl rfl ?_
            refine R_getf_r (j := 3) rfl ft_8_28 sh_0 rfl ?_
            refine R_getf_r (j := 3) rfl ft_8_128 sh_16 rfl ?_
            refine R_iload_n (k := 1) rfl rfl rfl ?_
            refine R_iald rfl sh_20 ⟨by omega, by omega⟩ ?_
            refine N_any (fun x23 => ?_)
            exact R_iret rfl rfl rfl ⟨rfl, _, rfl, trivial⟩
          · exfalso; omega
        · exfalso; omega
abbrev q_X9_hands (h : PH)  : Option PV → PH → Prop := fun r h' => h = h' ∧ ∃ z : Int32, r = some (.inl z) ∧ ((0 ≤ z.toInt ∧ z.toInt ≤ 6 ∧ z.toInt = (h.1 97 5).toInt + 0))
set_option maxHeartbeats 4000000 in
set_option maxRecDepth 100000 in
theorem k_X9_hands (h : PH) (hI : INV h)  : CALL d_X9_hands [.inr (.inr (.inl 96))] h (q_X9_hands h) := by
  show RUN d_X9_hands 0 [(0, .inr (.inr (.inl 96)))] [] h _
  refine R_aload_n (k := 0) rfl rfl rfl ?_
  refine R_getf_r (j := 1) rfl ft_9_9 sh_96 rfl ?_
  refine R_iconst 5 rfl rfl ?_
  refine R_iald rfl sh_97 (by decide) ?_
  have b1 : (0 : Int) ≤ (h.1 97 5).toInt ∧ (h.1 97 5).toInt ≤ 6 := hI.1 97 5
  have b2 : (0 : Int) ≤ (h.1 97 0).toInt ∧ (h.1 97 0).toInt ≤ 60 := hI.1 97 0
  have e3 : 0 < (h.1 97 5).toInt → 1 ≤ (h.1 97 0).toInt := hI.2.2.2.2.2.1.2.2
  show RUN d_X9_hands 6 [(0, .inr (.inr (.inl 96)))] [.inl (h.1 97 5)] h _
  exact R_iret rfl rfl rfl ⟨rfl, _, rfl, by omega⟩
abbrev q_X9_asItIs (h : PH)  : Option PV → PH → Prop := fun r h' => INV h' ∧ FR [96, 103, 104, 105, 106] h h' ∧ ((h'.1 96 42).toInt = (h.1 96 42).toInt ∧ True) ∧ r = none
set_option maxHeartbeats 4000000 in
set_option maxRecDepth 100000 in
theorem k_X9_asItIs (h : PH) (hI : INV h)  : CALL d_X9_asItIs [.inr (.inr (.inl 96))] h (q_X9_asItIs h) := by
  show RUN d_X9_asItIs 0 [(0, .inr (.inr (.inl 96)))] [] h _
  have fr : FR [96, 103, 104, 105, 106] h h := FR.rf _ _
  refine R_iconst 0 rfl rfl ?_
  refine R_istore_n (k := 1) rfl [(1, .inl 0), (0, .inr (.inr (.inl 96)))] rfl rfl (by decide) ?_
  have lp2 : ∀ (n1 : Nat) (h3 : PH) (x5 : Int32), INV h3 → FR [96, 103, 104, 105, 106] h h3 → FR [96, 103, 104, 105, 106] h h3 → 0 ≤ x5.toInt ∧ x5.toInt ≤ 6 → (h3.1 96 42).toInt = (h.1 96 42).toInt → (6 - x5.toInt).toNat < n1 → RUN d_X9_asItIs 2 [(1, .inl x5), (0, .inr (.inr (.inl 96)))] [] h3 (q_X9_asItIs h) := by
    intro n1
    induction n1 with
    | zero => intro h3 x5 m7 m8 m9 m10 m11 hz; exact absurd hz (Nat.not_lt_zero _)
    | succ n1 ih6 =>
      intro h3 x5 hI fr fl4 m10 m11 hz
      refine R_iload_n (k := 1) rfl rfl rfl ?_
      refine R_bipush 6 rfl rfl ?_
      refine N_icmp_ge (a := x5.toInt) (b := 6) 38 rfl rfl rfl (by decide) (fun c12 => ?_) (fun c12 => ?_)
      · refine R_iconst 0 rfl rfl ?_
        refine R_istore_n (k := 1) rfl [(1, .inl 0), (0, .inr (.inr (.inl 96)))] rfl rfl (by decide) ?_
        have lp14 : ∀ (n13 : Nat) (h15 : PH) (x17 : Int32), INV h15 → FR [96, 103, 104, 105, 106] h h15 → FR [96, 103, 104, 106] h3 h15 → 0 ≤ x17.toInt ∧ x17.toInt ≤ 360 → (h15.1 96 42).toInt = (h3.1 96 42).toInt → (360 - x17.toInt).toNat < n13 → RUN d_X9_asItIs 40 [(1, .inl x17), (0, .inr (.inr (.inl 96)))] [] h15 (q_X9_asItIs h) := by
          intro n13
          induction n13 with
          | zero => intro h15 x17 m19 m20 m21 m22 m23 hz; exact absurd hz (Nat.not_lt_zero _)
          | succ n13 ih18 =>
            intro h15 x17 hI fr fl16 m22 m23 hz
            have fl4 : FR [96, 103, 104, 105, 106] h h15 := fl4.trans fl16 (by decide)
            refine R_iload_n (k := 1) rfl rfl rfl ?_
            refine R_sipush 360 rfl rfl ?_
            refine N_icmp_ge (a := x17.toInt) (b := 360) 60 rfl rfl rfl (by decide) (fun c24 => ?_) (fun c24 => ?_)
            · refine R_iconst 0 rfl rfl ?_
              refine R_istore_n (k := 1) rfl [(1, .inl 0), (0, .inr (.inr (.inl 96)))] rfl rfl (by decide) ?_
              have lp26 : ∀ (n25 : Nat) (h27 : PH) (x29 : Int32), INV h27 → FR [96, 103, 104, 105, 106] h h27 → FR [96, 103, 104, 106] h15 h27 → 0 ≤ x29.toInt ∧ x29.toInt ≤ 60 → (h27.1 96 42).toInt = (h15.1 96 42).toInt → (60 - x29.toInt).toNat < n25 → RUN d_X9_asItIs 62 [(1, .inl x29), (0, .inr (.inr (.inl 96)))] [] h27 (q_X9_asItIs h) := by
                intro n25
                induction n25 with
                | zero => intro h27 x29 m31 m32 m33 m34 m35 hz; exact absurd hz (Nat.not_lt_zero _)
                | succ n25 ih30 =>
                  intro h27 x29 hI fr fl28 m34 m35 hz
                  have fl16 : FR [96, 103, 104, 106] h3 h27 := fl16.trans fl28 (by decide)
                  have fl4 : FR [96, 103, 104, 105, 106] h h27 := fl4.trans fl28 (by decide)
                  refine R_iload_n (k := 1) rfl rfl rfl ?_
                  refine R_bipush 60 rfl rfl ?_
                  refine N_icmp_ge (a := x29.toInt) (b := 60) 81 rfl rfl rfl (by decide) (fun c36 => ?_) (fun c36 => ?_)
                  · refine R_aload_n (k := 0) rfl rfl rfl ?_
                    refine R_aload_n (k := 0) rfl rfl rfl ?_
                    have b37 : (0 : Int) ≤ (h27.1 97 5).toInt ∧ (h27.1 97 5).toInt ≤ 6 := hI.1 97 5
                    have b38 : (0 : Int) ≤ (h27.1 97 0).toInt ∧ (h27.1 97 0).toInt ≤ 60 := hI.1 97 0
                    have e39 : 0 < (h27.1 97 5).toInt → 1 ≤ (h27.1 97 0).toInt := hI.2.2.2.2.2.1.2.2
                    refine R_callV (v := .inr (.inr (.inl 96))) (As := []) (rest := [.inr (.inr (.inl 96))]) rfl mt_9_i133 pp_X9_hands (by decide) rfl rfl rfl (Nat.le_of_ble_eq_true rfl) (Nat.le_of_ble_eq_true rfl) ((k_X9_hands h27 hI).mono (fun r40 h41 p42 => ?_))
                    obtain ⟨rfl, x43, rfl, q44⟩ := p42
                    show RUN d_X9_asItIs 86 [(1, .inl x29), (0, .inr (.inr (.inl 96)))] [.inl x43, .inr (.inr (.inl 96))] h27 _
                    refine K_putf (j := 18) (lo := 0) (hi' := 6) rfl ft_9_253 sh_96 rfl hI (by decide) rfl (by omega) fr (by decide) (fun h45 g46 hI fr => ?_)
                    have fl28 : FR [96, 103, 104, 106] h15 h45 := by rw [g46]; exact FR_wI _ _ fl28 (by decide)
                    have fl16 : FR [96, 103, 104, 106] h3 h45 := by rw [g46]; exact FR_wI _ _ fl16 (by decide)
                    have fl4 : FR [96, 103, 104, 105, 106] h h45 := by rw [g46]; exact FR_wI _ _ fl4 (by decide)
                    have s47 : (h45.1 96 42).toInt = (h27.1 96 42).toInt := by rw [g46, wI_at (by decide)]
                    have s48 : (h45.1 97 5).toInt = (h27.1 97 5).toInt := by rw [g46, wI_ne _ _ _ (by decide)]
                    have s49 : (h45.1 97 0).toInt = (h27.1 97 0).toInt := by rw [g46, wI_ne _ _ _ (by decide)]
                    have s50 : (h45.1 96 18).toInt = x43.toInt := by rw [g46, wI_is]
                    refine R_aload_n (k := 0) rfl rfl rfl ?_
                    refine R_aload_n (k := 0) rfl rfl rfl ?_
                    refine R_getf_r (j := 1) rfl ft_9_9 sh_96 rfl ?_
                    refine R_iconst 1 rfl rfl ?_
                    refine R_iald rfl sh_97 (by decide) ?_
                    have b51 : (0 : Int) ≤ (h45.1 97 1).toInt ∧ (h45.1 97 1).toInt ≤ 8 := hI.1 97 1
                    show RUN d_X9_asItIs 96 [(1, .inl x29), (0, .inr (.inr (.inl 96)))] [.inl (h45.1 97 1), .inr (.inr (.inl 96))] h45 _
                    refine K_putf (j := 19) (lo := (-2147483648)) (hi' := 2147483647) rfl ft_9_256 sh_96 rfl hI (by decide) rfl (i_rng _) fr (by decide) (fun h52 g53 hI fr => ?_)
                    have fl28 : FR [96, 103, 104, 106] h15 h52 := by rw [g53]; exact FR_wI _ _ fl28 (by decide)
                    have fl16 : FR [96, 103, 104, 106] h3 h52 := by rw [g53]; exact FR_wI _ _ fl16 (by decide)
                    have fl4 : FR [96, 103, 104, 105, 106] h h52 := by rw [g53]; exact FR_wI _ _ fl4 (by decide)
                    have s54 : (h52.1 96 42).toInt = (h45.1 96 42).toInt := by rw [g53, wI_at (by decide)]
                    have s55 : (h52.1 97 5).toInt = (h45.1 97 5).toInt := by rw [g53, wI_ne _ _ _ (by decide)]
                    have s56 : (h52.1 97 0).toInt = (h45.1 97 0).toInt := by rw [g53, wI_ne _ _ _ (by decide)]
                    have s57 : (h52.1 96 18).toInt = (h45.1 96 18).toInt := by rw [g53, wI_at (by decide)]
                    have s58 : (h52.1 97 1).toInt = (h45.1 97 1).toInt := by rw [g53, wI_ne _ _ _ (by decide)]
                    have s59 : (h52.1 96 19).toInt = (h45.1 97 1).toInt := by rw [g53, wI_is]
                    refine R_aload_n (k := 0) rfl rfl rfl ?_
                    refine R_aload_n (k := 0) rfl rfl rfl ?_
                    refine R_getf_r (j := 1) rfl ft_9_9 sh_96 rfl ?_
                    refine R_iconst 2 rfl rfl ?_
                    refine R_iald rfl sh_97 (by decide) ?_
                    show RUN d_X9_asItIs 106 [(1, .inl x29), (0, .inr (.inr (.inl 96)))] [.inl (h52.1 97 2), .inr (.inr (.inl 96))] h52 _
                    refine K_putf (j := 20) (lo := (-2147483648)) (hi' := 2147483647) rfl ft_9_259 sh_96 rfl hI (by decide) rfl (i_rng _) fr (by decide) (fun h60 g61 hI fr => ?_)
                    have fl28 : FR [96, 103, 104, 106] h15 h60 := by rw [g61]; exact FR_wI _ _ fl28 (by decide)
                    have fl16 : FR [96, 103, 104, 106] h3 h60 := by rw [g61]; exact FR_wI _ _ fl16 (by decide)
                    have fl4 : FR [96, 103, 104, 105, 106] h h60 := by rw [g61]; exact FR_wI _ _ fl4 (by decide)
                    have s62 : (h60.1 96 42).toInt = (h52.1 96 42).toInt := by rw [g61, wI_at (by decide)]
                    have s63 : (h60.1 97 5).toInt = (h52.1 97 5).toInt := by rw [g61, wI_ne _ _ _ (by decide)]
                    have s64 : (h60.1 97 0).toInt = (h52.1 97 0).toInt := by rw [g61, wI_ne _ _ _ (by decide)]
                    have s65 : (h60.1 96 18).toInt = (h52.1 96 18).toInt := by rw [g61, wI_at (by decide)]
                    have s66 : (h60.1 97 1).toInt = (h52.1 97 1).toInt := by rw [g61, wI_ne _ _ _ (by decide)]
                    have s67 : (h60.1 96 19).toInt = (h52.1 96 19).toInt := by rw [g61, wI_at (by decide)]
                    have s68 : (h60.1 97 2).toInt = (h52.1 97 2).toInt := by rw [g61, wI_ne _ _ _ (by decide)]
                    have s69 : (h60.1 96 20).toInt = (h52.1 97 2).toInt := by rw [g61, wI_is]
                    refine R_iconst 0 rfl rfl ?_
                    refine R_istore_n (k := 1) rfl [(1, .inl 0), (0, .inr (.inr (.inl 96)))] rfl rfl (by decide) ?_
                    have lp71 : ∀ (n70 : Nat) (h72 : PH) (x74 : Int32), INV h72 → FR [96, 103, 104, 105, 106] h h72 → FR [103, 104] h60 h72 → 0 ≤ x74.toInt ∧ x74.toInt ≤ 30 → (30 - x74.toInt).toNat < n70 → RUN d_X9_asItIs 111 [(1, .inl x74), (0, .inr (.inr (.inl 96)))] [] h72 (q_X9_asItIs h) := by
                      intro n70
                      induction n70 with
                      | zero => intro h72 x74 m76 m77 m78 m79 hz; exact absurd hz (Nat.not_lt_zero _)
                      | succ n70 ih75 =>
                        intro h72 x74 hI fr fl73 m79 hz
                        have s80 : (h72.1 96 42).toInt = (h60.1 96 42).toInt := by rw [(fl73 96 (by decide)).1]
                        have s81 : (h72.1 97 5).toInt = (h60.1 97 5).toInt := by rw [(fl73 97 (by decide)).1]
                        have s82 : (h72.1 97 0).toInt = (h60.1 97 0).toInt := by rw [(fl73 97 (by decide)).1]
                        have s83 : (h72.1 96 18).toInt = (h60.1 96 18).toInt := by rw [(fl73 96 (by decide)).1]
                        have s84 : (h72.1 97 1).toInt = (h60.1 97 1).toInt := by rw [(fl73 97 (by decide)).1]
                        have s85 : (h72.1 96 19).toInt = (h60.1 96 19).toInt := by rw [(fl73 96 (by decide)).1]
                        have s86 : (h72.1 97 2).toInt = (h60.1 97 2).toInt := by rw [(fl73 97 (by decide)).1]
                        have s87 : (h72.1 96 20).toInt = (h60.1 96 20).toInt := by rw [(fl73 96 (by decide)).1]
                        have fl28 : FR [96, 103, 104, 106] h15 h72 := fl28.trans fl73 (by decide)
                        have fl16 : FR [96, 103, 104, 106] h3 h72 := fl16.trans fl73 (by decide)
                        have fl4 : FR [96, 103, 104, 105, 106] h h72 := fl4.trans fl73 (by decide)
                        refine R_iload_n (k := 1) rfl rfl rfl ?_
                        refine R_aload_n (k := 0) rfl rfl rfl ?_
                        refine R_getf_r (j := 1) rfl ft_9_9 sh_96 rfl ?_
                        refine R_bipush 9 rfl rfl ?_
                        refine R_iald rfl sh_97 (by decide) ?_
                        have b88 : (0 : Int) ≤ (h72.1 97 9).toInt ∧ (h72.1 97 9).toInt ≤ 30 := hI.1 97 9
                        show RUN d_X9_asItIs 119 [(1, .inl x74), (0, .inr (.inr (.inl 96)))] [.inl (h72.1 97 9), .inl x74] h72 _
                        refine N_icmp_ge (a := x74.toInt) (b := (h72.1 97 9).toInt) 222 rfl rfl rfl rfl (fun c89 => ?_) (fun c89 => ?_)
                        · exact R_vret rfl rfl ⟨hI, fr, ⟨by omega, trivial⟩, rfl⟩
                        · refine R_aload_n (k := 0) rfl rfl rfl ?_
                          refine R_getf_r (j := 1) rfl ft_9_9 sh_96 rfl ?_
                          refine R_bipush 38 rfl rfl ?_
                          refine R_iload_n (k := 1) rfl rfl rfl ?_
                          refine N_iadd (a := 38) (b := x74.toInt) rfl (by decide) rfl (by omega) (fun x90 q91 => ?_)
                          refine R_iald rfl sh_97 ⟨by omega, by omega⟩ ?_
                          refine N_bd2 (act_at hI (i := x90) (b := x74.toInt) (by omega) (by omega)) (fun x92 q93 => ?_)
                          refine R_istore_n (k := 2) rfl [(2, .inl x92), (1, .inl x74), (0, .inr (.inr (.inl 96)))] rfl rfl (by decide) ?_
                          refine R_iload_n (k := 2) rfl rfl rfl ?_
                          refine R_sipush 10000 rfl rfl ?_
                          refine N_icmp_ge (a := x92.toInt) (b := 10000) 157 rfl rfl rfl (by decide) (fun c94 => ?_) (fun c94 => ?_)
                          · refine R_iload_n (k := 2) rfl rfl rfl ?_
                            refine R_sipush 10000 rfl rfl ?_
                            refine N_idiv (a := x92.toInt) (b := 10000) rfl rfl (by decide) (by omega) (by omega) (fun x95 q96 => ?_)
                            refine R_iconst 1 rfl rfl ?_
                            refine N_isub (a := x95.toInt) (b := 1) rfl rfl (by decide) (by omega) (fun x97 q98 => ?_)
                            refine R_istore_n (k := 3) rfl [(3, .inl x97), (2, .inl x92), (1, .inl x74), (0, .inr (.inr (.inl 96)))] rfl rfl (by decide) ?_
                            refine R_iload_n (k := 2) rfl rfl rfl ?_
                            refine R_bipush 100 rfl rfl ?_
                            refine N_idiv (a := x92.toInt) (b := 100) rfl rfl (by decide) (by omega) (by omega) (fun x99 q100 => ?_)
                            refine R_bipush 100 rfl rfl ?_
                            refine N_irem (a := x99.toInt) (b := 100) rfl rfl (by decide) (by omega) (by omega) (fun x101 q102 => ?_)
                            refine R_istore (k := 4) [(4, .inl x101), (3, .inl x97), (2, .inl x92), (1, .inl x74), (0, .inr (.inr (.inl 96)))] rfl rfl (by decide) ?_
                            refine R_iload (k := 4) rfl rfl ?_
                            refine R_istore (k := 5) [(5, .inl x101), (4, .inl x101), (3, .inl x97), (2, .inl x92), (1, .inl x74), (0, .inr (.inr (.inl 96)))] rfl rfl (by decide) ?_
                            have lp104 : ∀ (n103 : Nat) (h105 : PH) (x107 : Int32), INV h105 → FR [96, 103, 104, 105, 106] h h105 → FR [104] h72 h105 → 0 ≤ x107.toInt ∧ x107.toInt ≤ 99 → x101.toInt ≤ x107.toInt + 0 → (99 - x107.toInt).toNat < n103 → RUN d_X9_asItIs 178 [(5, .inl x107), (4, .inl x101), (3, .inl x97), (2, .inl x92), (1, .inl x74), (0, .inr (.inr (.inl 96)))] [] h105 (q_X9_asItIs h) := by
                              intro n103
                              induction n103 with
                              | zero => intro h105 x107 m109 m110 m111 m112 m113 hz; exact absurd hz (Nat.not_lt_zero _)
                              | succ n103 ih108 =>
                                intro h105 x107 hI fr fl106 m112 m113 hz
                                have s114 : (h105.1 96 42).toInt = (h72.1 96 42).toInt := by rw [(fl106 96 (by decide)).1]
                                have s115 : (h105.1 97 5).toInt = (h72.1 97 5).toInt := by rw [(fl106 97 (by decide)).1]
                                have s116 : (h105.1 97 0).toInt = (h72.1 97 0).toInt := by rw [(fl106 97 (by decide)).1]
                                have s117 : (h105.1 96 18).toInt = (h72.1 96 18).toInt := by rw [(fl106 96 (by decide)).1]
                                have s118 : (h105.1 97 1).toInt = (h72.1 97 1).toInt := by rw [(fl106 97 (by decide)).1]
                                have s119 : (h105.1 96 19).toInt = (h72.1 96 19).toInt := by rw [(fl106 96 (by decide)).1]
                                have s120 : (h105.1 97 2).toInt = (h72.1 97 2).toInt := by rw [(fl106 97 (by decide)).1]
                                have s121 : (h105.1 96 20).toInt = (h72.1 96 20).toInt := by rw [(fl106 96 (by decide)).1]
                                have s122 : (h105.1 97 9).toInt = (h72.1 97 9).toInt := by rw [(fl106 97 (by decide)).1]
                                have fl73 : FR [103, 104] h60 h105 := fl73.trans fl106 (by decide)
                                have fl28 : FR [96, 103, 104, 106] h15 h105 := fl28.trans fl106 (by decide)
                                have fl16 : FR [96, 103, 104, 106] h3 h105 := fl16.trans fl106 (by decide)
                                have fl4 : FR [96, 103, 104, 105, 106] h h105 := fl4.trans fl106 (by decide)
                                refine R_iload (k := 5) rfl rfl ?_
                                refine R_iload (k := 4) rfl rfl ?_
                                refine R_iload_n (k := 2) rfl rfl rfl ?_
                                refine R_bipush 100 rfl rfl ?_
                                refine N_irem (a := x92.toInt) (b := 100) rfl rfl (by decide) (by omega) (by omega) (fun x123 q124 => ?_)
                                refine N_iadd (a := x101.toInt) (b := x123.toInt) rfl rfl rfl (by omega) (fun x125 q126 => ?_)
                                refine N_icmp_ge (a := x107.toInt) (b := x125.toInt) 216 rfl rfl rfl rfl (fun c127 => ?_) (fun c127 => ?_)
                                · refine N_iinc (a := x74.toInt) (c := 1) (fun w => [(1, .inl w), (5, .inl x107), (4, .inl x101), (3, .inl x97), (2, .inl x92), (0, .inr (.inr (.inl 96)))]) rfl rfl (fun _ => rfl) (by decide) rfl (by decide) (by omega) (fun x128 q129 => ?_)
                                  refine R_goto 111 rfl rfl ?_
                                  exact RUN_weak (psub_cons rfl (psub_cons rfl (psub_nil _))) (ih75 h105 x128 hI fr fl73 (by omega) (by omega))
                                · refine R_iload (k := 5) rfl rfl ?_
                                  refine R_bipush 60 rfl rfl ?_
                                  refine N_icmp_ge (a := x107.toInt) (b := 60) 216 rfl rfl rfl (by decide) (fun c130 => ?_) (fun c130 => ?_)
                                  · refine N_iinc (a := x74.toInt) (c := 1) (fun w => [(1, .inl w), (5, .inl x107), (4, .inl x101), (3, .inl x97), (2, .inl x92), (0, .inr (.inr (.inl 96)))]) rfl rfl (fun _ => rfl) (by decide) rfl (by decide) (by omega) (fun x131 q132 => ?_)
                                    refine R_goto 111 rfl rfl ?_
                                    exact RUN_weak (psub_cons rfl (psub_cons rfl (psub_nil _))) (ih75 h105 x131 hI fr fl73 (by omega) (by omega))
                                  · refine R_aload_n (k := 0) rfl rfl rfl ?_
                                    refine R_getf_r (j := 16) rfl ft_9_37 sh_96 rfl ?_
                                    refine R_bipush 6 rfl rfl ?_
                                    refine R_iload (k := 5) rfl rfl ?_
                                    refine N_imul (a := 6) (b := x107.toInt) rfl (by decide) rfl (by omega) (fun x133 q134 => ?_)
                                    refine R_iload_n (k := 3) rfl rfl rfl ?_
                                    refine N_iadd (a := x133.toInt) (b := x97.toInt) rfl rfl rfl (by omega) (fun x135 q136 => ?_)
                                    refine R_iconst 1 rfl rfl ?_
                                    refine K_zast (a := x135.toInt) rfl sh_104 rfl ⟨by omega, by omega⟩ hI (by decide) rfl fr (by decide) (fun h137 g138 hI fr => ?_)
                                    have fl106 : FR [104] h72 h137 := by rw [g138]; exact FR_wI _ _ fl106 (by decide)
                                    have fl73 : FR [103, 104] h60 h137 := by rw [g138]; exact FR_wI _ _ fl73 (by decide)
                                    have fl28 : FR [96, 103, 104, 106] h15 h137 := by rw [g138]; exact FR_wI _ _ fl28 (by decide)
                                    have fl16 : FR [96, 103, 104, 106] h3 h137 := by rw [g138]; exact FR_wI _ _ fl16 (by decide)
                                    have fl4 : FR [96, 103, 104, 105, 106] h h137 := by rw [g138]; exact FR_wI _ _ fl4 (by decide)
                                    have s139 : (h137.1 96 42).toInt = (h105.1 96 42).toInt := by rw [g138, wI_ne _ _ _ (by decide)]
                                    have s140 : (h137.1 97 5).toInt = (h105.1 97 5).toInt := by rw [g138, wI_ne _ _ _ (by decide)]
                                    have s141 : (h137.1 97 0).toInt = (h105.1 97 0).toInt := by rw [g138, wI_ne _ _ _ (by decide)]
                                    have s142 : (h137.1 96 18).toInt = (h105.1 96 18).toInt := by rw [g138, wI_ne _ _ _ (by decide)]
                                    have s143 : (h137.1 97 1).toInt = (h105.1 97 1).toInt := by rw [g138, wI_ne _ _ _ (by decide)]
                                    have s144 : (h137.1 96 19).toInt = (h105.1 96 19).toInt := by rw [g138, wI_ne _ _ _ (by decide)]
                                    have s145 : (h137.1 97 2).toInt = (h105.1 97 2).toInt := by rw [g138, wI_ne _ _ _ (by decide)]
                                    have s146 : (h137.1 96 20).toInt = (h105.1 96 20).toInt := by rw [g138, wI_ne _ _ _ (by decide)]
                                    have s147 : (h137.1 97 9).toInt = (h105.1 97 9).toInt := by rw [g138, wI_ne _ _ _ (by decide)]
                                    refine N_iinc (a := x107.toInt) (c := 1) (fun w => [(5, .inl w), (4, .inl x101), (3, .inl x97), (2, .inl x92), (1, .inl x74), (0, .inr (.inr (.inl 96)))]) rfl rfl (fun _ => rfl) (by decide) rfl (by decide) (by omega) (fun x148 q149 => ?_)
                                    refine R_goto 178 rfl rfl ?_
                                    exact RUN_weak (psub_cons rfl (psub_cons rfl (psub_cons rfl (psub_cons rfl (psub_cons rfl (psub_cons rfl (psub_nil _))))))) (ih108 h137 x148 hI fr fl106 (by omega) (by omega) (by omega))
                            exact lp104 _ h72 x101 hI fr (FR.rf _ _) (by omega) (by omega) (Nat.lt_succ_self _)
                          · refine R_aload_n (k := 0) rfl rfl rfl ?_
                            refine R_getf_r (j := 15) rfl ft_9_34 sh_96 rfl ?_
                            refine R_iload_n (k := 2) rfl rfl rfl ?_
                            refine R_bipush 100 rfl rfl ?_
                            refine N_idiv (a := x92.toInt) (b := 100) rfl rfl (by decide) (by omega) (by omega) (fun x150 q151 => ?_)
                            refine R_iconst 1 rfl rfl ?_
                            refine N_isub (a := x150.toInt) (b := 1) rfl rfl (by decide) (by omega) (fun x152 q153 => ?_)
                            refine R_iload_n (k := 2) rfl rfl rfl ?_
                            refine R_bipush 100 rfl rfl ?_
                            refine N_irem (a := x92.toInt) (b := 100) rfl rfl (by decide) (by omega) (by omega) (fun x154 q155 => ?_)
                            refine K_iast (a := x152.toInt) (lo := (-2147483648)) (hi' := 2147483647) rfl sh_103 rfl ⟨by omega, by omega⟩ hI (by decide) rfl (i_rng _) fr (by decide) (fun h156 g157 hI fr => ?_)
                            have fl73 : FR [103, 104] h60 h156 := by rw [g157]; exact FR_wI _ _ fl73 (by decide)
                            have fl28 : FR [96, 103, 104, 106] h15 h156 := by rw [g157]; exact FR_wI _ _ fl28 (by decide)
                            have fl16 : FR [96, 103, 104, 106] h3 h156 := by rw [g157]; exact FR_wI _ _ fl16 (by decide)
                            have fl4 : FR [96, 103, 104, 105, 106] h h156 := by rw [g157]; exact FR_wI _ _ fl4 (by decide)
                            have s158 : (h156.1 96 42).toInt = (h72.1 96 42).toInt := by rw [g157, wI_ne _ _ _ (by decide)]
                            have s159 : (h156.1 97 5).toInt = (h72.1 97 5).toInt := by rw [g157, wI_ne _ _ _ (by decide)]
                            have s160 : (h156.1 97 0).toInt = (h72.1 97 0).toInt := by rw [g157, wI_ne _ _ _ (by decide)]
                            have s161 : (h156.1 96 18).toInt = (h72.1 96 18).toInt := by rw [g157, wI_ne _ _ _ (by decide)]
                            have s162 : (h156.1 97 1).toInt = (h72.1 97 1).toInt := by rw [g157, wI_ne _ _ _ (by decide)]
                            have s163 : (h156.1 96 19).toInt = (h72.1 96 19).toInt := by rw [g157, wI_ne _ _ _ (by decide)]
                            have s164 : (h156.1 97 2).toInt = (h72.1 97 2).toInt := by rw [g157, wI_ne _ _ _ (by decide)]
                            have s165 : (h156.1 96 20).toInt = (h72.1 96 20).toInt := by rw [g157, wI_ne _ _ _ (by decide)]
                            have s166 : (h156.1 97 9).toInt = (h72.1 97 9).toInt := by rw [g157, wI_ne _ _ _ (by decide)]
                            refine R_goto 216 rfl rfl ?_
                            refine N_iinc (a := x74.toInt) (c := 1) (fun w => [(1, .inl w), (2, .inl x92), (0, .inr (.inr (.inl 96)))]) rfl rfl (fun _ => rfl) (by decide) rfl (by decide) (by omega) (fun x167 q168 => ?_)
                            refine R_goto 111 rfl rfl ?_
                            exact RUN_weak (psub_cons rfl (psub_cons rfl (psub_nil _))) (ih75 h156 x167 hI fr fl73 (by omega) (by omega))
                    exact lp71 _ h60 (0 : Int32) hI fr (FR.rf _ _) (by decide) (Nat.lt_succ_self _)
                  · refine R_aload_n (k := 0) rfl rfl rfl ?_
                    refine R_getf_r (j := 21) rfl ft_9_43 sh_96 rfl ?_
                    refine R_iload_n (k := 1) rfl rfl rfl ?_
                    refine R_iconst 0 rfl rfl ?_
                    refine K_zast (a := x29.toInt) rfl sh_106 rfl ⟨by omega, by omega⟩ hI (by decide) rfl fr (by decide) (fun h169 g170 hI fr => ?_)
                    have fl28 : FR [96, 103, 104, 106] h15 h169 := by rw [g170]; exact FR_wI _ _ fl28 (by decide)
                    have fl16 : FR [96, 103, 104, 106] h3 h169 := by rw [g170]; exact FR_wI _ _ fl16 (by decide)
                    have fl4 : FR [96, 103, 104, 105, 106] h h169 := by rw [g170]; exact FR_wI _ _ fl4 (by decide)
                    have s171 : (h169.1 96 42).toInt = (h27.1 96 42).toInt := by rw [g170, wI_ne _ _ _ (by decide)]
                    refine N_iinc (a := x29.toInt) (c := 1) (fun w => [(1, .inl w), (0, .inr (.inr (.inl 96)))]) rfl rfl (fun _ => rfl) (by decide) rfl (by decide) (by omega) (fun x172 q173 => ?_)
                    refine R_goto 62 rfl rfl ?_
                    exact RUN_weak (psub_cons rfl (psub_cons rfl (psub_nil _))) (ih30 h169 x172 hI fr fl28 (by omega) (by omega) (by omega))
              exact lp26 _ h15 (0 : Int32) hI fr (FR.rf _ _) (by decide) rfl (Nat.lt_succ_self _)
            · refine R_aload_n (k := 0) rfl rfl rfl ?_
              refine R_getf_r (j := 16) rfl ft_9_37 sh_96 rfl ?_
              refine R_iload_n (k := 1) rfl rfl rfl ?_
              refine R_iconst 0 rfl rfl ?_
              refine K_zast (a := x17.toInt) rfl sh_104 rfl ⟨by omega, by omega⟩ hI (by decide) rfl fr (by decide) (fun h174 g175 hI fr => ?_)
              have fl16 : FR [96, 103, 104, 106] h3 h174 := by rw [g175]; exact FR_wI _ _ fl16 (by decide)
              have fl4 : FR [96, 103, 104, 105, 106] h h174 := by rw [g175]; exact FR_wI _ _ fl4 (by decide)
              have s176 : (h174.1 96 42).toInt = (h15.1 96 42).toInt := by rw [g175, wI_ne _ _ _ (by decide)]
              refine N_iinc (a := x17.toInt) (c := 1) (fun w => [(1, .inl w), (0, .inr (.inr (.inl 96)))]) rfl rfl (fun _ => rfl) (by decide) rfl (by decide) (by omega) (fun x177 q178 => ?_)
              refine R_goto 40 rfl rfl ?_
              exact RUN_weak (psub_cons rfl (psub_cons rfl (psub_nil _))) (ih18 h174 x177 hI fr fl16 (by omega) (by omega) (by omega))
        exact lp14 _ h3 (0 : Int32) hI fr (FR.rf _ _) (by decide) rfl (Nat.lt_succ_self _)
      · refine R_aload_n (k := 0) rfl rfl rfl ?_
        refine R_getf_r (j := 15) rfl ft_9_34 sh_96 rfl ?_
        refine R_iload_n (k := 1) rfl rfl rfl ?_
        refine R_aload_n (k := 0) rfl rfl rfl ?_
        refine R_getf_r (j := 1) rfl ft_9_9 sh_96 rfl ?_
        refine R_bipush 11 rfl rfl ?_
        refine R_iconst 2 rfl rfl ?_
        refine R_iload_n (k := 1) rfl rfl rfl ?_
        refine N_imul (a := 2) (b := x5.toInt) rfl (by decide) rfl (by omega) (fun x179 q180 => ?_)
        refine N_iadd (a := 11) (b := x179.toInt) rfl (by decide) rfl (by omega) (fun x181 q182 => ?_)
        refine R_iald rfl sh_97 ⟨by omega, by omega⟩ ?_
        refine N_any (fun x183 => ?_)
        refine K_iast (a := x5.toInt) (lo := (-2147483648)) (hi' := 2147483647) rfl sh_103 rfl ⟨by omega, by omega⟩ hI (by decide) rfl (i_rng _) fr (by decide) (fun h184 g185 hI fr => ?_)
        have fl4 : FR [96, 103, 104, 105, 106] h h184 := by rw [g185]; exact FR_wI _ _ fl4 (by decide)
        have s186 : (h184.1 96 42).toInt = (h3.1 96 42).toInt := by rw [g185, wI_ne _ _ _ (by decide)]
        refine R_aload_n (k := 0) rfl rfl rfl ?_
        refine R_getf_r (j := 17) rfl ft_9_40 sh_96 rfl ?_
        refine R_iload_n (k := 1) rfl rfl rfl ?_
        refine R_iload_n (k := 1) rfl rfl rfl ?_
        refine K_iast (a := x5.toInt) (lo := 0) (hi' := 5) rfl sh_105 rfl ⟨by omega, by omega⟩ hI (by decide) rfl (by omega) fr (by decide) (fun h187 g188 hI fr => ?_)
        have fl4 : FR [96, 103, 104, 105, 106] h h187 := by rw [g188]; exact FR_wI _ _ fl4 (by decide)
        have s189 : (h187.1 96 42).toInt = (h184.1 96 42).toInt := by rw [g188, wI_ne _ _ _ (by decide)]
        refine N_iinc (a := x5.toInt) (c := 1) (fun w => [(1, .inl w), (0, .inr (.inr (.inl 96)))]) rfl rfl (fun _ => rfl) (by decide) rfl (by decide) (by omega) (fun x190 q191 => ?_)
        refine R_goto 2 rfl rfl ?_
        exact RUN_weak (psub_cons rfl (psub_cons rfl (psub_nil _))) (ih6 h187 x190 hI fr fl4 (by omega) (by omega) (by omega))
  exact lp2 _ h (0 : Int32) hI fr (FR.rf _ _) (by decide) rfl (Nat.lt_succ_self _)
abbrev q_X9_isHand (h : PH) (a0 : Int32) : Option PV → PH → Prop := fun r h' => h = h' ∧ ∃ z : Int32, r = some (.inl z) ∧ ((z.toInt = 0 ∧ a0.toInt ≤ (-1)) ∨ (z.toInt = 0 ∧ 0 ≤ a0.toInt ∧ (h.1 97 5).toInt ≤ a0.toInt + 0) ∨ (z.toInt = 1 ∧ 0 ≤ a0.toInt ∧ a0.toInt ≤ 5 ∧ 1 ≤ (h.1 97 0).toInt ∧ (h.1 97 0).toInt ≤ 60 ∧ 1 ≤ (h.1 97 5).toInt ∧ (h.1 97 5).toInt ≤ 6 ∧ a0.toInt ≤ (h.1 97 5).toInt + (-1)))
set_option maxHeartbeats 4000000 in
set_option maxRecDepth 100000 in
theorem k_X9_isHand (h : PH) (hI : INV h) (a0 : Int32) : CALL d_X9_isHand [.inr (.inr (.inl 96)), .inl a0] h (q_X9_isHand h a0) := by
  show RUN d_X9_isHand 0 [(0, .inr (.inr (.inl 96))), (1, .inl a0)] [] h _
  have b1 := i_rng a0
  refine R_iload_n (k := 1) rfl rfl rfl ?_
  refine N_i2l rfl (fun w2 q3 => ?_)
  refine R_lconst 0 rfl rfl ?_
  refine R_aload_n (k := 0) rfl rfl rfl ?_
  refine R_getf_r (j := 1) rfl ft_9_9 sh_96 rfl ?_
  refine R_iconst 5 rfl rfl ?_
  refine R_iald rfl sh_97 (by decide) ?_
  have b4 : (0 : Int) ≤ (h.1 97 5).toInt ∧ (h.1 97 5).toInt ≤ 6 := hI.1 97 5
  have b5 : (0 : Int) ≤ (h.1 97 0).toInt ∧ (h.1 97 0).toInt ≤ 60 := hI.1 97 0
  have e6 : 0 < (h.1 97 5).toInt → 1 ≤ (h.1 97 0).toInt := hI.2.2.2.2.2.1.2.2
  show RUN d_X9_isHand 9 [(0, .inr (.inr (.inl 96))), (1, .inl a0)] [.inl (h.1 97 5), .inr (.inl 0), .inr (.inl w2)] h _
  refine R_iconst 1 rfl rfl ?_
  refine N_isub (a := (h.1 97 5).toInt) (b := 1) rfl rfl (by decide) (by omega) (fun x7 q8 => ?_)
  refine N_i2l rfl (fun w9 q10 => ?_)
  have k11 : (0 : Int64).toInt = 0 := by decide
  refine R_callS (As := [.inr (.inl w2), .inr (.inl 0), .inr (.inl w9)]) (rest := []) rfl mt_9_i125 (by decide) pp_X9_in (by decide) rfl rfl (Nat.le_of_ble_eq_true rfl) (Nat.le_of_ble_eq_true rfl) ((k_X9_in h hI w2 (0 : Int64) w9).mono (fun r12 h13 p14 => ?_))
  obtain ⟨rfl, x15, rfl, q16 | q16 | q16⟩ := p14
  · show RUN d_X9_isHand 15 [(0, .inr (.inr (.inl 96))), (1, .inl a0)] [.inl x15] h _
    exact R_iret rfl rfl (nar_z (by omega)) ⟨rfl, _, rfl, by omega⟩
  · show RUN d_X9_isHand 15 [(0, .inr (.inr (.inl 96))), (1, .inl a0)] [.inl x15] h _
    exact R_iret rfl rfl (nar_z (by omega)) ⟨rfl, _, rfl, by omega⟩
  · show RUN d_X9_isHand 15 [(0, .inr (.inr (.inl 96))), (1, .inl a0)] [.inl x15] h _
    exact R_iret rfl rfl (nar_z (by omega)) ⟨rfl, _, rfl, by omega⟩
abbrev q_X9_hand (h : PH) (a0 : Int32) (a1 : Int32) : Option PV → PH → Prop := fun r h' => INV h' ∧ FR [96, 103, 104, 105, 106] h h' ∧ (True) ∧ ∃ z : Int32, r = some (.inl z) ∧ ((True))
set_option maxHeartbeats 4000000 in
set_option maxRecDepth 100000 in
theorem k_X9_hand (h : PH) (hI : INV h) (a0 : Int32) (a1 : Int32) : CALL d_X9_hand [.inr (.inr (.inl 96)), .inl a0, .inl a1] h (q_X9_hand h a0 a1) := by
  show RUN d_X9_hand 0 [(0, .inr (.inr (.inl 96))), (1, .inl a0), (2, .inl a1)] [] h _
  have b1 := i_rng a0
  have b2 := i_rng a1
  have fr : FR [96, 103, 104, 105, 106] h h := FR.rf _ _
  refine R_aload_n (k := 0) rfl rfl rfl ?_
  refine R_callV (v := .inr (.inr (.inl 96))) (As := []) (rest := []) rfl mt_9_i298 pp_X9_asItIs (by decide) rfl rfl rfl (Nat.le_of_ble_eq_true rfl) (Nat.le_of_ble_eq_true rfl) ((k_X9_asItIs h hI).mono (fun r3 h4 p5 => ?_))
  obtain ⟨hJ, fj, ⟨kp6, -⟩, rfl⟩ := p5
  have f7 := fj
  have fr := fr.trans fj (by decide)
  have hI := hJ
  show RUN d_X9_hand 4 [(0, .inr (.inr (.inl 96))), (1, .inl a0), (2, .inl a1)] [] h4 _
  refine R_aload_n (k := 0) rfl rfl rfl ?_
  refine R_iload_n (k := 1) rfl rfl rfl ?_
  have b8 : (0 : Int) ≤ (h4.1 97 5).toInt ∧ (h4.1 97 5).toInt ≤ 6 := hI.1 97 5
  have b9 : (0 : Int) ≤ (h4.1 97 0).toInt ∧ (h4.1 97 0).toInt ≤ 60 := hI.1 97 0
  have e10 : 0 < (h4.1 97 5).toInt → 1 ≤ (h4.1 97 0).toInt := hI.2.2.2.2.2.1.2.2
  refine R_callV (v := .inr (.inr (.inl 96))) (As := [.inl a0]) (rest := []) rfl mt_9_i314 pp_X9_isHand (by decide) rfl rfl rfl (Nat.le_of_ble_eq_true rfl) (Nat.le_of_ble_eq_true rfl) ((k_X9_isHand h4 hI a0).mono (fun r11 h12 p13 => ?_))
  obtain ⟨rfl, x14, rfl, q15 | q15 | q15⟩ := p13
  · show RUN d_X9_hand 9 [(0, .inr (.inr (.inl 96))), (1, .inl a0), (2, .inl a1)] [.inl x14] h4 _
    refine N_if_eq (a := x14.toInt) 22 rfl rfl rfl (fun c16 => ?_) (fun c16 => ?_)
    · refine R_bipush (-2) rfl rfl ?_
      exact R_iret rfl rfl rfl ⟨hI, fr, trivial, _, rfl, trivial⟩
    · exfalso; omega
  · show RUN d_X9_hand 9 [(0, .inr (.inr (.inl 96))), (1, .inl a0), (2, .inl a1)] [.inl x14] h4 _
    refine N_if_eq (a := x14.toInt) 22 rfl rfl rfl (fun c17 => ?_) (fun c17 => ?_)
    · refine R_bipush (-2) rfl rfl ?_
      exact R_iret rfl rfl rfl ⟨hI, fr, trivial, _, rfl, trivial⟩
    · exfalso; omega
  · show RUN d_X9_hand 9 [(0, .inr (.inr (.inl 96))), (1, .inl a0), (2, .inl a1)] [.inl x14] h4 _
    refine N_if_eq (a := x14.toInt) 22 rfl rfl rfl (fun c18 => ?_) (fun c18 => ?_)
    · exfalso; omega
    · refine R_iload_n (k := 2) rfl rfl rfl ?_
      refine N_i2l rfl (fun w19 q20 => ?_)
      refine R_lconst 0 rfl rfl ?_
      refine R_lconst 1 rfl rfl ?_
      have k21 : (0 : Int64).toInt = 0 := by decide
      have k22 : (1 : Int64).toInt = 1 := by decide
      refine R_callS (As := [.inr (.inl w19), .inr (.inl 0), .inr (.inl 1)]) (rest := []) rfl mt_9_i125 (by decide) pp_X9_in (by decide) rfl rfl (Nat.le_of_ble_eq_true rfl) (Nat.le_of_ble_eq_true rfl) ((k_X9_in h4 hI w19 (0 : Int64) (1 : Int64)).mono (fun r23 h24 p25 => ?_))
      obtain ⟨rfl, x26, rfl, q27 | q27 | q27⟩ := p25
      · show RUN d_X9_hand 19 [(0, .inr (.inr (.inl 96))), (1, .inl a0), (2, .inl a1)] [.inl x26] h4 _
        refine N_if_ne (a := x26.toInt) 25 rfl rfl rfl (fun c28 => ?_) (fun c28 => ?_)
        · exfalso; omega
        · refine R_bipush (-2) rfl rfl ?_
          exact R_iret rfl rfl rfl ⟨hI, fr, trivial, _, rfl, trivial⟩
      · show RUN d_X9_hand 19 [(0, .inr (.inr (.inl 96))), (1, .inl a0), (2, .inl a1)] [.inl x26] h4 _
        refine N_if_ne (a := x26.toInt) 25 rfl rfl rfl (fun c29 => ?_) (fun c29 => ?_)
        · exfalso; omega
        · refine R_bipush (-2) rfl rfl ?_
          exact R_iret rfl rfl rfl ⟨hI, fr, trivial, _, rfl, trivial⟩
      · show RUN d_X9_hand 19 [(0, .inr (.inr (.inl 96))), (1, .inl a0), (2, .inl a1)] [.inl x26] h4 _
        refine N_if_ne (a := x26.toInt) 25 rfl rfl rfl (fun c30 => ?_) (fun c30 => ?_)
        · refine R_iload_n (k := 2) rfl rfl rfl ?_
          refine N_if_ne (a := a1.toInt) 38 rfl rfl rfl (fun c31 => ?_) (fun c31 => ?_)
          · refine R_aload_n (k := 0) rfl rfl rfl ?_
            refine R_getf_r (j := 1) rfl ft_9_9 sh_96 rfl ?_
            refine R_bipush 11 rfl rfl ?_
            refine R_iconst 2 rfl rfl ?_
            refine R_iload_n (k := 1) rfl rfl rfl ?_
            refine N_imul (a := 2) (b := a0.toInt) rfl (by decide) rfl (by omega) (fun x32 q33 => ?_)
            refine N_iadd (a := 11) (b := x32.toInt) rfl (by decide) rfl (by omega) (fun x34 q35 => ?_)
            refine R_iconst 1 rfl rfl ?_
            refine N_iadd (a := x34.toInt) (b := 1) rfl rfl (by decide) (by omega) (fun x36 q37 => ?_)
            refine R_iald rfl sh_97 ⟨by omega, by omega⟩ ?_
            refine N_any (fun x38 => ?_)
            exact R_iret rfl rfl rfl ⟨hI, fr, trivial, _, rfl, trivial⟩
          · refine R_aload_n (k := 0) rfl rfl rfl ?_
            refine R_getf_r (j := 15) rfl ft_9_34 sh_96 rfl ?_
            refine R_iload_n (k := 1) rfl rfl rfl ?_
            refine R_iald rfl sh_103 ⟨by omega, by omega⟩ ?_
            refine N_any (fun x39 => ?_)
            refine R_goto 51 rfl rfl ?_
            exact R_iret rfl rfl rfl ⟨hI, fr, trivial, _, rfl, trivial⟩
        · exfalso; omega
abbrev q_X1_hasPair (h : PH) (a0 : Int32) : Option PV → PH → Prop := fun r h' => h = h' ∧ ∃ z : Int32, r = some (.inl z) ∧ ((z.toInt = 0 ∧ a0.toInt ≤ (-1)) ∨ (z.toInt = 0 ∧ 0 ≤ a0.toInt ∧ (h.1 17 6).toInt ≤ a0.toInt + 0) ∨ (z.toInt = 1 ∧ 0 ≤ a0.toInt ∧ a0.toInt ≤ 4 ∧ 1 ≤ (h.1 17 6).toInt ∧ (h.1 17 6).toInt ≤ 5 ∧ a0.toInt ≤ (h.1 17 6).toInt + (-1)))
set_option maxHeartbeats 4000000 in
set_option maxRecDepth 100000 in
theorem k_X1_hasPair (h : PH) (hI : INV h) (a0 : Int32) : CALL d_X1_hasPair [.inr (.inr (.inl 16)), .inl a0] h (q_X1_hasPair h a0) := by
  show RUN d_X1_hasPair 0 [(0, .inr (.inr (.inl 16))), (1, .inl a0)] [] h _
  have b1 := i_rng a0
  refine R_iload_n (k := 1) rfl rfl rfl ?_
  refine N_if_lt (a := a0.toInt) 19 rfl rfl rfl (fun c2 => ?_) (fun c2 => ?_)
  · refine R_iconst 0 rfl rfl ?_
    exact R_iret rfl rfl rfl ⟨rfl, _, rfl, by rw [show (0 : Int32).toInt = 0 from rfl] <;> omega⟩
  · refine R_iload_n (k := 1) rfl rfl rfl ?_
    refine R_aload_n (k := 0) rfl rfl rfl ?_
    refine R_getf_r (j := 0) rfl ft_1_9 sh_16 rfl ?_
    refine R_bipush 6 rfl rfl ?_
    refine R_iald rfl sh_17 (by decide) ?_
    have b3 : (0 : Int) ≤ (h.1 17 6).toInt ∧ (h.1 17 6).toInt ≤ 5 := hI.1 17 6
    show RUN d_X1_hasPair 12 [(0, .inr (.inr (.inl 16))), (1, .inl a0)] [.inl (h.1 17 6), .inl a0] h _
    refine N_icmp_ge (a := a0.toInt) (b := (h.1 17 6).toInt) 19 rfl rfl rfl rfl (fun c4 => ?_) (fun c4 => ?_)
    · refine R_iconst 0 rfl rfl ?_
      exact R_iret rfl rfl rfl ⟨rfl, _, rfl, by rw [show (0 : Int32).toInt = 0 from rfl] <;> omega⟩
    · refine R_iconst 1 rfl rfl ?_
      refine R_goto 20 rfl rfl ?_
      exact R_iret rfl rfl rfl ⟨rfl, _, rfl, by rw [show (1 : Int32).toInt = 1 from rfl] <;> omega⟩
abbrev q_X8_pair (h : PH) (a0 : Int32) (a1 : Int32) : Option PV → PH → Prop := fun r h' => h = h' ∧ ∃ z : Int32, r = some (.inl z) ∧ ((True))
set_option maxHeartbeats 4000000 in
set_option maxRecDepth 100000 in
theorem k_X8_pair (h : PH) (hI : INV h) (a0 : Int32) (a1 : Int32) : CALL d_X8_pair [.inr (.inr (.inl 0)), .inl a0, .inl a1] h (q_X8_pair h a0 a1) := by
  show RUN d_X8_pair 0 [(0, .inr (.inr (.inl 0))), (1, .inl a0), (2, .inl a1)] [] h _
  have b1 := i_rng a0
  have b2 := i_rng a1
  refine R_aload_n (k := 0) rfl rfl rfl ?_
  refine R_getf_r (j := 3) rfl ft_8_28 sh_0 rfl ?_
  refine R_iload_n (k := 1) rfl rfl rfl ?_
  have b3 : (0 : Int) ≤ (h.1 17 6).toInt ∧ (h.1 17 6).toInt ≤ 5 := hI.1 17 6
  refine R_callV (v := .inr (.inr (.inl 16))) (As := [.inl a0]) (rest := []) rfl mt_8_i131 pp_X1_hasPair (by decide) rfl rfl rfl (Nat.le_of_ble_eq_true rfl) (Nat.le_of_ble_eq_true rfl) ((k_X1_hasPair h hI a0).mono (fun r4 h5 p6 => ?_))
  obtain ⟨rfl, x7, rfl, q8 | q8 | q8⟩ := p6
  · show RUN d_X8_pair 8 [(0, .inr (.inr (.inl 0))), (1, .inl a0), (2, .inl a1)] [.inl x7] h _
    refine N_if_eq (a := x7.toInt) 20 rfl rfl rfl (fun c9 => ?_) (fun c9 => ?_)
    · refine R_bipush (-2) rfl rfl ?_
      exact R_iret rfl rfl rfl ⟨rfl, _, rfl, trivial⟩
    · exfalso; omega
  · show RUN d_X8_pair 8 [(0, .inr (.inr (.inl 0))), (1, .inl a0), (2, .inl a1)] [.inl x7] h _
    refine N_if_eq (a := x7.toInt) 20 rfl rfl rfl (fun c10 => ?_) (fun c10 => ?_)
    · refine R_bipush (-2) rfl rfl ?_
      exact R_iret rfl rfl rfl ⟨rfl, _, rfl, trivial⟩
    · exfalso; omega
  · show RUN d_X8_pair 8 [(0, .inr (.inr (.inl 0))), (1, .inl a0), (2, .inl a1)] [.inl x7] h _
    refine N_if_eq (a := x7.toInt) 20 rfl rfl rfl (fun c11 => ?_) (fun c11 => ?_)
    · exfalso; omega
    · refine R_iload_n (k := 2) rfl rfl rfl ?_
      refine N_if_lt (a := a1.toInt) 20 rfl rfl rfl (fun c12 => ?_) (fun c12 => ?_)
      · refine R_bipush (-2) rfl rfl ?_
        exact R_iret rfl rfl rfl ⟨rfl, _, rfl, trivial⟩
      · refine R_iload_n (k := 2) rfl rfl rfl ?_
        refine R_iconst 2 rfl rfl ?_
        refine N_icmp_le (a := a1.toInt) (b := 2) 23 rfl rfl rfl (by decide) (fun c13 => ?_) (fun c13 => ?_)
        · refine R_iload_n (k := 2) rfl rfl rfl ?_
          refine R_iconst 2 rfl rfl ?_
          refine N_icmp_ne (a := a1.toInt) (b := 2) 38 rfl rfl rfl (by decide) (fun c14 => ?_) (fun c14 => ?_)
          · refine R_iload_n (k := 2) rfl rfl rfl ?_
            refine N_if_ne (a := a1.toInt) 54 rfl rfl rfl (fun c15 => ?_) (fun c15 => ?_)
            · refine R_aload_n (k := 0) rfl rfl rfl ?_
              refine R_getf_r (j := 3) rfl ft_8_28 sh_0 rfl ?_
              refine R_getf_r (j := 6) rfl ft_8_140 sh_16 rfl ?_
              refine R_iload_n (k := 1) rfl rfl rfl ?_
              refine R_iald rfl sh_23 ⟨by omega, by omega⟩ ?_
              refine N_bd (lo := 0) (hi := 5) (hI.1 23 _) (fun x16 q17 => ?_)
              exact R_iret rfl rfl rfl ⟨rfl, _, rfl, trivial⟩
            · refine R_aload_n (k := 0) rfl rfl rfl ?_
              refine R_getf_r (j := 3) rfl ft_8_28 sh_0 rfl ?_
              refine R_getf_r (j := 5) rfl ft_8_137 sh_16 rfl ?_
              refine R_iload_n (k := 1) rfl rfl rfl ?_
              refine R_iald rfl sh_22 ⟨by omega, by omega⟩ ?_
              refine N_bd (lo := 0) (hi := 5) (hI.1 22 _) (fun x18 q19 => ?_)
              refine R_goto 63 rfl rfl ?_
              exact R_iret rfl rfl rfl ⟨rfl, _, rfl, trivial⟩
          · refine R_aload_n (k := 0) rfl rfl rfl ?_
            refine R_getf_r (j := 3) rfl ft_8_28 sh_0 rfl ?_
            refine R_getf_r (j := 7) rfl ft_8_134 sh_16 rfl ?_
            refine R_iload_n (k := 1) rfl rfl rfl ?_
            refine R_iald rfl sh_24 ⟨by omega, by omega⟩ ?_
            refine N_any (fun x20 => ?_)
            exact R_iret rfl rfl rfl ⟨rfl, _, rfl, trivial⟩
        · refine R_bipush (-2) rfl rfl ?_
          exact R_iret rfl rfl rfl ⟨rfl, _, rfl, trivial⟩
abbrev q_X9_pair (h : PH) (a0 : Int32) (a1 : Int32) : Option PV → PH → Prop := fun r h' => h = h' ∧ ∃ z : Int32, r = some (.inl z) ∧ ((True))
set_option maxHeartbeats 4000000 in
set_option maxRecDepth 100000 in
theorem k_X9_pair (h : PH) (hI : INV h) (a0 : Int32) (a1 : Int32) : CALL d_X9_pair [.inr (.inr (.inl 96)), .inl a0, .inl a1] h (q_X9_pair h a0 a1) := by
  show RUN d_X9_pair 0 [(0, .inr (.inr (.inl 96))), (1, .inl a0), (2, .inl a1)] [] h _
  have b1 := i_rng a0
  have b2 := i_rng a1
  refine R_iload_n (k := 1) rfl rfl rfl ?_
  refine N_i2l rfl (fun w3 q4 => ?_)
  refine R_lconst 0 rfl rfl ?_
  refine R_aload_n (k := 0) rfl rfl rfl ?_
  refine R_getf_r (j := 1) rfl ft_9_9 sh_96 rfl ?_
  refine R_bipush 6 rfl rfl ?_
  refine R_iald rfl sh_97 (by decide) ?_
  have b5 : (0 : Int) ≤ (h.1 97 6).toInt ∧ (h.1 97 6).toInt ≤ 5 := hI.1 97 6
  show RUN d_X9_pair 10 [(0, .inr (.inr (.inl 96))), (1, .inl a0), (2, .inl a1)] [.inl (h.1 97 6), .inr (.inl 0), .inr (.inl w3)] h _
  refine R_iconst 1 rfl rfl ?_
  refine N_isub (a := (h.1 97 6).toInt) (b := 1) rfl rfl (by decide) (by omega) (fun x6 q7 => ?_)
  refine N_i2l rfl (fun w8 q9 => ?_)
  have k10 : (0 : Int64).toInt = 0 := by decide
  refine R_callS (As := [.inr (.inl w3), .inr (.inl 0), .inr (.inl w8)]) (rest := []) rfl mt_9_i125 (by decide) pp_X9_in (by decide) rfl rfl (Nat.le_of_ble_eq_true rfl) (Nat.le_of_ble_eq_true rfl) ((k_X9_in h hI w3 (0 : Int64) w8).mono (fun r11 h12 p13 => ?_))
  obtain ⟨rfl, x14, rfl, q15 | q15 | q15⟩ := p13
  · show RUN d_X9_pair 16 [(0, .inr (.inr (.inl 96))), (1, .inl a0), (2, .inl a1)] [.inl x14] h _
    refine N_if_eq (a := x14.toInt) 47 rfl rfl rfl (fun c16 => ?_) (fun c16 => ?_)
    · refine R_bipush (-2) rfl rfl ?_
      exact R_iret rfl rfl rfl ⟨rfl, _, rfl, trivial⟩
    · exfalso; omega
  · show RUN d_X9_pair 16 [(0, .inr (.inr (.inl 96))), (1, .inl a0), (2, .inl a1)] [.inl x14] h _
    refine N_if_eq (a := x14.toInt) 47 rfl rfl rfl (fun c17 => ?_) (fun c17 => ?_)
    · refine R_bipush (-2) rfl rfl ?_
      exact R_iret rfl rfl rfl ⟨rfl, _, rfl, trivial⟩
    · exfalso; omega
  · show RUN d_X9_pair 16 [(0, .inr (.inr (.inl 96))), (1, .inl a0), (2, .inl a1)] [.inl x14] h _
    refine N_if_eq (a := x14.toInt) 47 rfl rfl rfl (fun c18 => ?_) (fun c18 => ?_)
    · exfalso; omega
    · refine R_iload_n (k := 2) rfl rfl rfl ?_
      refine N_i2l rfl (fun w19 q20 => ?_)
      refine R_lconst 0 rfl rfl ?_
      refine R_ldc2 (x := 2) rfl kt_9_123 ?_
      have k21 : (0 : Int64).toInt = 0 := by decide
      have k22 : (2 : Int64).toInt = 2 := by decide
      refine R_callS (As := [.inr (.inl w19), .inr (.inl 0), .inr (.inl 2)]) (rest := []) rfl mt_9_i125 (by decide) pp_X9_in (by decide) rfl rfl (Nat.le_of_ble_eq_true rfl) (Nat.le_of_ble_eq_true rfl) ((k_X9_in h hI w19 (0 : Int64) (2 : Int64)).mono (fun r23 h24 p25 => ?_))
      obtain ⟨rfl, x26, rfl, q27 | q27 | q27⟩ := p25
      · show RUN d_X9_pair 28 [(0, .inr (.inr (.inl 96))), (1, .inl a0), (2, .inl a1)] [.inl x26] h _
        refine N_if_eq (a := x26.toInt) 47 rfl rfl rfl (fun c28 => ?_) (fun c28 => ?_)
        · refine R_bipush (-2) rfl rfl ?_
          exact R_iret rfl rfl rfl ⟨rfl, _, rfl, trivial⟩
        · exfalso; omega
      · show RUN d_X9_pair 28 [(0, .inr (.inr (.inl 96))), (1, .inl a0), (2, .inl a1)] [.inl x26] h _
        refine N_if_eq (a := x26.toInt) 47 rfl rfl rfl (fun c29 => ?_) (fun c29 => ?_)
        · refine R_bipush (-2) rfl rfl ?_
          exact R_iret rfl rfl rfl ⟨rfl, _, rfl, trivial⟩
        · exfalso; omega
      · show RUN d_X9_pair 28 [(0, .inr (.inr (.inl 96))), (1, .inl a0), (2, .inl a1)] [.inl x26] h _
        refine N_if_eq (a := x26.toInt) 47 rfl rfl rfl (fun c30 => ?_) (fun c30 => ?_)
        · exfalso; omega
        · refine R_aload_n (k := 0) rfl rfl rfl ?_
          refine R_getf_r (j := 1) rfl ft_9_9 sh_96 rfl ?_
          refine R_bipush 23 rfl rfl ?_
          refine R_iconst 3 rfl rfl ?_
          refine R_iload_n (k := 1) rfl rfl rfl ?_
          refine N_imul (a := 3) (b := a0.toInt) rfl (by decide) rfl (by omega) (fun x31 q32 => ?_)
          refine N_iadd (a := 23) (b := x31.toInt) rfl (by decide) rfl (by omega) (fun x33 q34 => ?_)
          refine R_iload_n (k := 2) rfl rfl rfl ?_
          refine N_iadd (a := x33.toInt) (b := a1.toInt) rfl rfl rfl (by omega) (fun x35 q36 => ?_)
          refine R_iald rfl sh_97 ⟨by omega, by omega⟩ ?_
          refine N_any (fun x37 => ?_)
          refine R_goto 49 rfl rfl ?_
          exact R_iret rfl rfl rfl ⟨rfl, _, rfl, trivial⟩
abbrev q_X1_keptAt (h : PH) (a0 : Int32) (a1 : Int32) (a2 : Int32) : Option PV → PH → Prop := fun r h' => h = h' ∧ ∃ z : Int32, r = some (.inl z) ∧ ((z.toInt = 1) ∨ (z.toInt = 0))
set_option maxHeartbeats 4000000 in
set_option maxRecDepth 100000 in
theorem k_X1_keptAt (h : PH) (hI : INV h) (a0 : Int32) (a1 : Int32) (a2 : Int32) (h0a : 0 ≤ a0.toInt ∧ a0.toInt ≤ 4) : CALL d_X1_keptAt [.inr (.inr (.inl 16)), .inl a0, .inl a1, .inl a2] h (q_X1_keptAt h a0 a1 a2) := by
  show RUN d_X1_keptAt 0 [(0, .inr (.inr (.inl 16))), (1, .inl a0), (2, .inl a1), (3, .inl a2)] [] h _
  have b1 := i_rng a1
  have b2 := i_rng a2
  refine R_iload_n (k := 2) rfl rfl rfl ?_
  refine R_iload_n (k := 3) rfl rfl rfl ?_
  have b3 := i_rng a1
  have b4 := i_rng a2
  refine R_isub rfl ?_
  refine N_any (fun x5 => ?_)
  refine R_nat (b := 2) rfl mt_1_i52 rfl ⟨by decide, by decide, Nat.le_of_ble_eq_true rfl⟩ ?_
  refine N_any (fun x6 => ?_)
  refine R_iconst 1 rfl rfl ?_
  refine N_icmp_ne (a := x6.toInt) (b := 1) 14 rfl rfl rfl (by decide) (fun c7 => ?_) (fun c7 => ?_)
  · refine R_iconst 0 rfl rfl ?_
    refine R_istore (k := 4) [(4, .inl 0), (0, .inr (.inr (.inl 16))), (1, .inl a0), (2, .inl a1), (3, .inl a2)] rfl rfl (by decide) ?_
    refine R_iload (k := 4) rfl rfl ?_
    refine R_aload_n (k := 0) rfl rfl rfl ?_
    refine R_getf_r (j := 7) rfl ft_1_34 sh_16 rfl ?_
    refine R_iload_n (k := 1) rfl rfl rfl ?_
    refine R_iald rfl sh_24 ⟨by omega, by omega⟩ ?_
    refine N_any (fun x8 => ?_)
    refine R_iconst 1 rfl rfl ?_
    refine N_icmp_ne (a := x8.toInt) (b := 1) 33 rfl rfl rfl (by decide) (fun c9 => ?_) (fun c9 => ?_)
    · refine R_iconst 0 rfl rfl ?_
      refine N_icmp_ne (a := 0) (b := 0) 41 rfl rfl (by decide) (by decide) (fun c10 => ?_) (fun c10 => ?_)
      · exfalso; omega
      · refine R_iconst 1 rfl rfl ?_
        refine R_goto 42 rfl rfl ?_
        exact R_iret rfl rfl rfl ⟨rfl, _, rfl, by rw [show (1 : Int32).toInt = 1 from rfl] <;> omega⟩
    · refine R_iconst 1 rfl rfl ?_
      refine R_goto 34 rfl rfl ?_
      refine N_icmp_ne (a := 0) (b := 1) 41 rfl rfl (by decide) (by decide) (fun c11 => ?_) (fun c11 => ?_)
      · refine R_iconst 0 rfl rfl ?_
        exact R_iret rfl rfl rfl ⟨rfl, _, rfl, by rw [show (0 : Int32).toInt = 0 from rfl] <;> omega⟩
      · exfalso; omega
  · refine R_iconst 1 rfl rfl ?_
    refine R_goto 15 rfl rfl ?_
    refine R_istore (k := 4) [(4, .inl 1), (0, .inr (.inr (.inl 16))), (1, .inl a0), (2, .inl a1), (3, .inl a2)] rfl rfl (by decide) ?_
    refine R_iload (k := 4) rfl rfl ?_
    refine R_aload_n (k := 0) rfl rfl rfl ?_
    refine R_getf_r (j := 7) rfl ft_1_34 sh_16 rfl ?_
    refine R_iload_n (k := 1) rfl rfl rfl ?_
    refine R_iald rfl sh_24 ⟨by omega, by omega⟩ ?_
    refine N_any (fun x12 => ?_)
    refine R_iconst 1 rfl rfl ?_
    refine N_icmp_ne (a := x12.toInt) (b := 1) 33 rfl rfl rfl (by decide) (fun c13 => ?_) (fun c13 => ?_)
    · refine R_iconst 0 rfl rfl ?_
      refine N_icmp_ne (a := 1) (b := 0) 41 rfl rfl (by decide) (by decide) (fun c14 => ?_) (fun c14 => ?_)
      · refine R_iconst 0 rfl rfl ?_
        exact R_iret rfl rfl rfl ⟨rfl, _, rfl, by rw [show (0 : Int32).toInt = 0 from rfl] <;> omega⟩
      · exfalso; omega
    · refine R_iconst 1 rfl rfl ?_
      refine R_goto 34 rfl rfl ?_
      refine N_icmp_ne (a := 1) (b := 1) 41 rfl rfl (by decide) (by decide) (fun c15 => ?_) (fun c15 => ?_)
      · exfalso; omega
      · refine R_iconst 1 rfl rfl ?_
        refine R_goto 42 rfl rfl ?_
        exact R_iret rfl rfl rfl ⟨rfl, _, rfl, by rw [show (1 : Int32).toInt = 1 from rfl] <;> omega⟩
abbrev q_X1_keptAsTold (h : PH) (a0 : Int32) : Option PV → PH → Prop := fun r h' => h = h' ∧ ∃ z : Int32, r = some (.inl z) ∧ ((z.toInt = 1) ∨ (z.toInt = 0))
set_option maxHeartbeats 4000000 in
set_option maxRecDepth 100000 in
theorem k_X1_keptAsTold (h : PH) (hI : INV h) (a0 : Int32) (h0a : 0 ≤ a0.toInt ∧ a0.toInt ≤ 4) : CALL d_X1_keptAsTold [.inr (.inr (.inl 16)), .inl a0] h (q_X1_keptAsTold h a0) := by
  show RUN d_X1_keptAsTold 0 [(0, .inr (.inr (.inl 16))), (1, .inl a0)] [] h _
  refine R_aload_n (k := 0) rfl rfl rfl ?_
  refine R_iload_n (k := 1) rfl rfl rfl ?_
  refine R_aload_n (k := 0) rfl rfl rfl ?_
  refine R_getf_r (j := 5) rfl ft_1_28 sh_16 rfl ?_
  refine R_iload_n (k := 1) rfl rfl rfl ?_
  refine R_iald rfl sh_22 ⟨by omega, by omega⟩ ?_
  refine N_bd (lo := 0) (hi := 5) (hI.1 22 _) (fun x1 q2 => ?_)
  refine R_aload_n (k := 0) rfl rfl rfl ?_
  refine R_getf_r (j := 6) rfl ft_1_31 sh_16 rfl ?_
  refine R_iload_n (k := 1) rfl rfl rfl ?_
  refine R_iald rfl sh_23 ⟨by omega, by omega⟩ ?_
  refine N_bd (lo := 0) (hi := 5) (hI.1 23 _) (fun x3 q4 => ?_)
  refine R_callV (v := .inr (.inr (.inl 16))) (As := [.inl a0, .inl x1, .inl x3]) (rest := []) rfl mt_1_i58 pp_X1_keptAt (by decide) rfl rfl rfl (Nat.le_of_ble_eq_true rfl) (Nat.le_of_ble_eq_true rfl) ((k_X1_keptAt h hI a0 x1 x3 (by omega)).mono (fun r5 h6 p7 => ?_))
  obtain ⟨rfl, x8, rfl, q9 | q9⟩ := p7
  · show RUN d_X1_keptAsTold 17 [(0, .inr (.inr (.inl 16))), (1, .inl a0)] [.inl x8] h _
    exact R_iret rfl rfl (nar_z (by omega)) ⟨rfl, _, rfl, by omega⟩
  · show RUN d_X1_keptAsTold 17 [(0, .inr (.inr (.inl 16))), (1, .inl a0)] [.inl x8] h _
    exact R_iret rfl rfl (nar_z (by omega)) ⟨rfl, _, rfl, by omega⟩
abbrev q_X8_keeps (h : PH) (a0 : Int32) : Option PV → PH → Prop := fun r h' => h = h' ∧ ∃ z : Int32, r = some (.inl z) ∧ (((-2) ≤ z.toInt ∧ z.toInt ≤ 1))
set_option maxHeartbeats 4000000 in
set_option maxRecDepth 100000 in
theorem k_X8_keeps (h : PH) (hI : INV h) (a0 : Int32) : CALL d_X8_keeps [.inr (.inr (.inl 0)), .inl a0] h (q_X8_keeps h a0) := by
  show RUN d_X8_keeps 0 [(0, .inr (.inr (.inl 0))), (1, .inl a0)] [] h _
  have b1 := i_rng a0
  refine R_aload_n (k := 0) rfl rfl rfl ?_
  refine R_getf_r (j := 3) rfl ft_8_28 sh_0 rfl ?_
  refine R_iload_n (k := 1) rfl rfl rfl ?_
  have b2 : (0 : Int) ≤ (h.1 17 6).toInt ∧ (h.1 17 6).toInt ≤ 5 := hI.1 17 6
  refine R_callV (v := .inr (.inr (.inl 16))) (As := [.inl a0]) (rest := []) rfl mt_8_i131 pp_X1_hasPair (by decide) rfl rfl rfl (Nat.le_of_ble_eq_true rfl) (Nat.le_of_ble_eq_true rfl) ((k_X1_hasPair h hI a0).mono (fun r3 h4 p5 => ?_))
  obtain ⟨rfl, x6, rfl, q7 | q7 | q7⟩ := p5
  · show RUN d_X8_keeps 8 [(0, .inr (.inr (.inl 0))), (1, .inl a0)] [.inl x6] h _
    refine N_if_ne (a := x6.toInt) 14 rfl rfl rfl (fun c8 => ?_) (fun c8 => ?_)
    · exfalso; omega
    · refine R_bipush (-2) rfl rfl ?_
      exact R_iret rfl rfl rfl ⟨rfl, _, rfl, by rw [show ((-2) : Int32).toInt = (-2) from rfl] <;> omega⟩
  · show RUN d_X8_keeps 8 [(0, .inr (.inr (.inl 0))), (1, .inl a0)] [.inl x6] h _
    refine N_if_ne (a := x6.toInt) 14 rfl rfl rfl (fun c9 => ?_) (fun c9 => ?_)
    · exfalso; omega
    · refine R_bipush (-2) rfl rfl ?_
      exact R_iret rfl rfl rfl ⟨rfl, _, rfl, by rw [show ((-2) : Int32).toInt = (-2) from rfl] <;> omega⟩
  · show RUN d_X8_keeps 8 [(0, .inr (.inr (.inl 0))), (1, .inl a0)] [.inl x6] h _
    refine N_if_ne (a := x6.toInt) 14 rfl rfl rfl (fun c10 => ?_) (fun c10 => ?_)
    · refine R_aload_n (k := 0) rfl rfl rfl ?_
      refine R_getf_r (j := 3) rfl ft_8_28 sh_0 rfl ?_
      refine R_iload_n (k := 1) rfl rfl rfl ?_
      refine R_callV (v := .inr (.inr (.inl 16))) (As := [.inl a0]) (rest := []) rfl mt_8_i143 pp_X1_keptAsTold (by decide) rfl rfl rfl (Nat.le_of_ble_eq_true rfl) (Nat.le_of_ble_eq_true rfl) ((k_X1_keptAsTold h hI a0 (by omega)).mono (fun r11 h12 p13 => ?_))
      obtain ⟨rfl, x14, rfl, q15 | q15⟩ := p13
      · show RUN d_X8_keeps 22 [(0, .inr (.inr (.inl 0))), (1, .inl a0)] [.inl x14] h _
        refine N_if_eq (a := x14.toInt) 29 rfl rfl rfl (fun c16 => ?_) (fun c16 => ?_)
        · exfalso; omega
        · refine R_iconst 1 rfl rfl ?_
          refine R_goto 30 rfl rfl ?_
          exact R_iret rfl rfl rfl ⟨rfl, _, rfl, by rw [show (1 : Int32).toInt = 1 from rfl] <;> omega⟩
      · show RUN d_X8_keeps 22 [(0, .inr (.inr (.inl 0))), (1, .inl a0)] [.inl x14] h _
        refine N_if_eq (a := x14.toInt) 29 rfl rfl rfl (fun c17 => ?_) (fun c17 => ?_)
        · refine R_iconst 0 rfl rfl ?_
          exact R_iret rfl rfl rfl ⟨rfl, _, rfl, by rw [show (0 : Int32).toInt = 0 from rfl] <;> omega⟩
        · exfalso; omega
    · exfalso; omega
abbrev q_X9_placeIn (h : PH) (a0 : Int32) : Option PV → PH → Prop := fun r h' => h = h' ∧ ∃ z : Int32, r = some (.inl z) ∧ (((-1) ≤ z.toInt ∧ z.toInt ≤ 5))
set_option maxHeartbeats 4000000 in
set_option maxRecDepth 100000 in
theorem k_X9_placeIn (h : PH) (hI : INV h) (a0 : Int32) : CALL d_X9_placeIn [.inr (.inr (.inl 96)), .inl a0] h (q_X9_placeIn h a0) := by
  show RUN d_X9_placeIn 0 [(0, .inr (.inr (.inl 96))), (1, .inl a0)] [] h _
  have b1 := i_rng a0
  refine R_iconst 0 rfl rfl ?_
  refine R_istore_n (k := 2) rfl [(2, .inl 0), (0, .inr (.inr (.inl 96))), (1, .inl a0)] rfl rfl (by decide) ?_
  have lp3 : ∀ (n2 : Nat) (x4 : Int32), 0 ≤ x4.toInt ∧ x4.toInt ≤ 6 → (6 - x4.toInt).toNat < n2 → RUN d_X9_placeIn 2 [(2, .inl x4), (0, .inr (.inr (.inl 96))), (1, .inl a0)] [] h (q_X9_placeIn h a0) := by
    intro n2
    induction n2 with
    | zero => intro x4 m6 hz; exact absurd hz (Nat.not_lt_zero _)
    | succ n2 ih5 =>
      intro x4 m6 hz
      refine R_iload_n (k := 2) rfl rfl rfl ?_
      refine R_aload_n (k := 0) rfl rfl rfl ?_
      have b7 : (0 : Int) ≤ (h.1 97 5).toInt ∧ (h.1 97 5).toInt ≤ 6 := hI.1 97 5
      have b8 : (0 : Int) ≤ (h.1 97 0).toInt ∧ (h.1 97 0).toInt ≤ 60 := hI.1 97 0
      have e9 : 0 < (h.1 97 5).toInt → 1 ≤ (h.1 97 0).toInt := hI.2.2.2.2.2.1.2.2
      refine R_callV (v := .inr (.inr (.inl 96))) (As := []) (rest := [.inl x4]) rfl mt_9_i133 pp_X9_hands (by decide) rfl rfl rfl (Nat.le_of_ble_eq_true rfl) (Nat.le_of_ble_eq_true rfl) ((k_X9_hands h hI).mono (fun r10 h11 p12 => ?_))
      obtain ⟨rfl, x13, rfl, q14⟩ := p12
      show RUN d_X9_placeIn 7 [(2, .inl x4), (0, .inr (.inr (.inl 96))), (1, .inl a0)] [.inl x13, .inl x4] h _
      refine N_icmp_ge (a := x4.toInt) (b := x13.toInt) 28 rfl rfl rfl rfl (fun c15 => ?_) (fun c15 => ?_)
      · refine R_iconst (-1) rfl rfl ?_
        exact R_iret rfl rfl rfl ⟨rfl, _, rfl, by rw [show ((-1) : Int32).toInt = (-1) from rfl] <;> omega⟩
      · refine R_aload_n (k := 0) rfl rfl rfl ?_
        refine R_getf_r (j := 17) rfl ft_9_40 sh_96 rfl ?_
        refine R_iload_n (k := 2) rfl rfl rfl ?_
        refine R_iald rfl sh_105 ⟨by omega, by omega⟩ ?_
        refine N_bd (lo := 0) (hi := 5) (hI.1 105 _) (fun x16 q17 => ?_)
        refine R_iload_n (k := 1) rfl rfl rfl ?_
        refine N_icmp_ne (a := x16.toInt) (b := a0.toInt) 22 rfl rfl rfl rfl (fun c18 => ?_) (fun c18 => ?_)
        · refine N_iinc (a := x4.toInt) (c := 1) (fun w => [(2, .inl w), (0, .inr (.inr (.inl 96))), (1, .inl a0)]) rfl rfl (fun _ => rfl) (by decide) rfl (by decide) (by omega) (fun x19 q20 => ?_)
          refine R_goto 2 rfl rfl ?_
          exact RUN_weak (psub_cons rfl (psub_cons rfl (psub_cons rfl (psub_nil _)))) (ih5 x19 (by omega) (by omega))
        · refine R_iload_n (k := 2) rfl rfl rfl ?_
          exact R_iret rfl rfl rfl ⟨rfl, _, rfl, by omega⟩
  exact lp3 _ (0 : Int32) (by decide) (Nat.lt_succ_self _)
abbrev q_X9_keepsPair (h : PH) (a0 : Int32) : Option PV → PH → Prop := fun r h' => h = h' ∧ ∃ z : Int32, r = some (.inl z) ∧ ((z.toInt = 1) ∨ (z.toInt = 0))
set_option maxHeartbeats 4000000 in
set_option maxRecDepth 100000 in
theorem k_X9_keepsPair (h : PH) (hI : INV h) (a0 : Int32) (h0a : 0 ≤ a0.toInt ∧ a0.toInt ≤ 4) : CALL d_X9_keepsPair [.inr (.inr (.inl 96)), .inl a0] h (q_X9_keepsPair h a0) := by
  show RUN d_X9_keepsPair 0 [(0, .inr (.inr (.inl 96))), (1, .inl a0)] [] h _
  refine R_aload_n (k := 0) rfl rfl rfl ?_
  refine R_aload_n (k := 0) rfl rfl rfl ?_
  refine R_getf_r (j := 1) rfl ft_9_9 sh_96 rfl ?_
  refine R_bipush 23 rfl rfl ?_
  refine R_iconst 3 rfl rfl ?_
  refine R_iload_n (k := 1) rfl rfl rfl ?_
  refine N_imul (a := 3) (b := a0.toInt) rfl (by decide) rfl (by omega) (fun x1 q2 => ?_)
  refine N_iadd (a := 23) (b := x1.toInt) rfl (by decide) rfl (by omega) (fun x3 q4 => ?_)
  refine R_iald rfl sh_97 ⟨by omega, by omega⟩ ?_
  refine N_any (fun x5 => ?_)
  refine R_callV (v := .inr (.inr (.inl 96))) (As := [.inl x5]) (rest := []) rfl mt_9_i394 pp_X9_placeIn (by decide) rfl rfl rfl (Nat.le_of_ble_eq_true rfl) (Nat.le_of_ble_eq_true rfl) ((k_X9_placeIn h hI x5).mono (fun r6 h7 p8 => ?_))
  obtain ⟨rfl, x9, rfl, q10⟩ := p8
  show RUN d_X9_keepsPair 15 [(0, .inr (.inr (.inl 96))), (1, .inl a0)] [.inl x9] h _
  refine R_aload_n (k := 0) rfl rfl rfl ?_
  refine R_aload_n (k := 0) rfl rfl rfl ?_
  refine R_getf_r (j := 1) rfl ft_9_9 sh_96 rfl ?_
  refine R_bipush 23 rfl rfl ?_
  refine R_iconst 3 rfl rfl ?_
  refine R_iload_n (k := 1) rfl rfl rfl ?_
  refine N_imul (a := 3) (b := a0.toInt) rfl (by decide) rfl (by omega) (fun x11 q12 => ?_)
  refine N_iadd (a := 23) (b := x11.toInt) rfl (by decide) rfl (by omega) (fun x13 q14 => ?_)
  refine R_iconst 1 rfl rfl ?_
  refine N_iadd (a := x13.toInt) (b := 1) rfl rfl (by decide) (by omega) (fun x15 q16 => ?_)
  refine R_iald rfl sh_97 ⟨by omega, by omega⟩ ?_
  refine N_any (fun x17 => ?_)
  refine R_callV (v := .inr (.inr (.inl 96))) (As := [.inl x17]) (rest := [.inl x9]) rfl mt_9_i394 pp_X9_placeIn (by decide) rfl rfl rfl (Nat.le_of_ble_eq_true rfl) (Nat.le_of_ble_eq_true rfl) ((k_X9_placeIn h hI x17).mono (fun r18 h19 p20 => ?_))
  obtain ⟨rfl, x21, rfl, q22⟩ := p20
  show RUN d_X9_keepsPair 32 [(0, .inr (.inr (.inl 96))), (1, .inl a0)] [.inl x21, .inl x9] h _
  refine N_isub (a := x9.toInt) (b := x21.toInt) rfl rfl rfl (by omega) (fun x23 q24 => ?_)
  refine R_nat (b := 2) rfl mt_9_i397 rfl ⟨by decide, by decide, Nat.le_of_ble_eq_true rfl⟩ ?_
  refine N_any (fun x25 => ?_)
  refine R_istore_n (k := 2) rfl [(2, .inl x25), (0, .inr (.inr (.inl 96))), (1, .inl a0)] rfl rfl (by decide) ?_
  refine R_iload_n (k := 2) rfl rfl rfl ?_
  refine R_iconst 1 rfl rfl ?_
  refine N_icmp_ne (a := x25.toInt) (b := 1) 46 rfl rfl rfl (by decide) (fun c26 => ?_) (fun c26 => ?_)
  · refine R_iconst 0 rfl rfl ?_
    refine R_aload_n (k := 0) rfl rfl rfl ?_
    refine R_getf_r (j := 1) rfl ft_9_9 sh_96 rfl ?_
    refine R_bipush 23 rfl rfl ?_
    refine R_iconst 3 rfl rfl ?_
    refine R_iload_n (k := 1) rfl rfl rfl ?_
    refine N_imul (a := 3) (b := a0.toInt) rfl (by decide) rfl (by omega) (fun x27 q28 => ?_)
    refine N_iadd (a := 23) (b := x27.toInt) rfl (by decide) rfl (by omega) (fun x29 q30 => ?_)
    refine R_iconst 2 rfl rfl ?_
    refine N_iadd (a := x29.toInt) (b := 2) rfl rfl (by decide) (by omega) (fun x31 q32 => ?_)
    refine R_iald rfl sh_97 ⟨by omega, by omega⟩ ?_
    refine N_any (fun x33 => ?_)
    refine R_iconst 1 rfl rfl ?_
    refine N_icmp_ne (a := x33.toInt) (b := 1) 68 rfl rfl rfl (by decide) (fun c34 => ?_) (fun c34 => ?_)
    · refine R_iconst 0 rfl rfl ?_
      refine N_icmp_ne (a := 0) (b := 0) 76 rfl rfl (by decide) (by decide) (fun c35 => ?_) (fun c35 => ?_)
      · exfalso; omega
      · refine R_iconst 1 rfl rfl ?_
        refine R_goto 77 rfl rfl ?_
        exact R_iret rfl rfl rfl ⟨rfl, _, rfl, by rw [show (1 : Int32).toInt = 1 from rfl] <;> omega⟩
    · refine R_iconst 1 rfl rfl ?_
      refine R_goto 69 rfl rfl ?_
      refine N_icmp_ne (a := 0) (b := 1) 76 rfl rfl (by decide) (by decide) (fun c36 => ?_) (fun c36 => ?_)
      · refine R_iconst 0 rfl rfl ?_
        exact R_iret rfl rfl rfl ⟨rfl, _, rfl, by rw [show (0 : Int32).toInt = 0 from rfl] <;> omega⟩
      · exfalso; omega
  · refine R_iconst 1 rfl rfl ?_
    refine R_goto 47 rfl rfl ?_
    refine R_aload_n (k := 0) rfl rfl rfl ?_
    refine R_getf_r (j := 1) rfl ft_9_9 sh_96 rfl ?_
    refine R_bipush 23 rfl rfl ?_
    refine R_iconst 3 rfl rfl ?_
    refine R_iload_n (k := 1) rfl rfl rfl ?_
    refine N_imul (a := 3) (b := a0.toInt) rfl (by decide) rfl (by omega) (fun x37 q38 => ?_)
    refine N_iadd (a := 23) (b := x37.toInt) rfl (by decide) rfl (by omega) (fun x39 q40 => ?_)
    refine R_iconst 2 rfl rfl ?_
    refine N_iadd (a := x39.toInt) (b := 2) rfl rfl (by decide) (by omega) (fun x41 q42 => ?_)
    refine R_iald rfl sh_97 ⟨by omega, by omega⟩ ?_
    refine N_any (fun x43 => ?_)
    refine R_iconst 1 rfl rfl ?_
    refine N_icmp_ne (a := x43.toInt) (b := 1) 68 rfl rfl rfl (by decide) (fun c44 => ?_) (fun c44 => ?_)
    · refine R_iconst 0 rfl rfl ?_
      refine N_icmp_ne (a := 1) (b := 0) 76 rfl rfl (by decide) (by decide) (fun c45 => ?_) (fun c45 => ?_)
      · refine R_iconst 0 rfl rfl ?_
        exact R_iret rfl rfl rfl ⟨rfl, _, rfl, by rw [show (0 : Int32).toInt = 0 from rfl] <;> omega⟩
      · exfalso; omega
    · refine R_iconst 1 rfl rfl ?_
      refine R_goto 69 rfl rfl ?_
      refine N_icmp_ne (a := 1) (b := 1) 76 rfl rfl (by decide) (by decide) (fun c46 => ?_) (fun c46 => ?_)
      · exfalso; omega
      · refine R_iconst 1 rfl rfl ?_
        refine R_goto 77 rfl rfl ?_
        exact R_iret rfl rfl rfl ⟨rfl, _, rfl, by rw [show (1 : Int32).toInt = 1 from rfl] <;> omega⟩
abbrev q_X9_keeps (h : PH) (a0 : Int32) : Option PV → PH → Prop := fun r h' => INV h' ∧ FR [96, 103, 104, 105, 106] h h' ∧ (True) ∧ ∃ z : Int32, r = some (.inl z) ∧ (((-2) ≤ z.toInt ∧ z.toInt ≤ 1))
set_option maxHeartbeats 4000000 in
set_option maxRecDepth 100000 in
theorem k_X9_keeps (h : PH) (hI : INV h) (a0 : Int32) : CALL d_X9_keeps [.inr (.inr (.inl 96)), .inl a0] h (q_X9_keeps h a0) := by
  show RUN d_X9_keeps 0 [(0, .inr (.inr (.inl 96))), (1, .inl a0)] [] h _
  have b1 := i_rng a0
  have fr : FR [96, 103, 104, 105, 106] h h := FR.rf _ _
  refine R_aload_n (k := 0) rfl rfl rfl ?_
  refine R_callV (v := .inr (.inr (.inl 96))) (As := []) (rest := []) rfl mt_9_i298 pp_X9_asItIs (by decide) rfl rfl rfl (Nat.le_of_ble_eq_true rfl) (Nat.le_of_ble_eq_true rfl) ((k_X9_asItIs h hI).mono (fun r2 h3 p4 => ?_))
  obtain ⟨hJ, fj, ⟨kp5, -⟩, rfl⟩ := p4
  have f6 := fj
  have fr := fr.trans fj (by decide)
  have hI := hJ
  show RUN d_X9_keeps 4 [(0, .inr (.inr (.inl 96))), (1, .inl a0)] [] h3 _
  refine R_iload_n (k := 1) rfl rfl rfl ?_
  refine N_i2l rfl (fun w7 q8 => ?_)
  refine R_lconst 0 rfl rfl ?_
  refine R_aload_n (k := 0) rfl rfl rfl ?_
  refine R_getf_r (j := 1) rfl ft_9_9 sh_96 rfl ?_
  refine R_bipush 6 rfl rfl ?_
  refine R_iald rfl sh_97 (by decide) ?_
  have b9 : (0 : Int) ≤ (h3.1 97 6).toInt ∧ (h3.1 97 6).toInt ≤ 5 := hI.1 97 6
  show RUN d_X9_keeps 14 [(0, .inr (.inr (.inl 96))), (1, .inl a0)] [.inl (h3.1 97 6), .inr (.inl 0), .inr (.inl w7)] h3 _
  refine R_iconst 1 rfl rfl ?_
  refine N_isub (a := (h3.1 97 6).toInt) (b := 1) rfl rfl (by decide) (by omega) (fun x10 q11 => ?_)
  refine N_i2l rfl (fun w12 q13 => ?_)
  have k14 : (0 : Int64).toInt = 0 := by decide
  refine R_callS (As := [.inr (.inl w7), .inr (.inl 0), .inr (.inl w12)]) (rest := []) rfl mt_9_i125 (by decide) pp_X9_in (by decide) rfl rfl (Nat.le_of_ble_eq_true rfl) (Nat.le_of_ble_eq_true rfl) ((k_X9_in h3 hI w7 (0 : Int64) w12).mono (fun r15 h16 p17 => ?_))
  obtain ⟨rfl, x18, rfl, q19 | q19 | q19⟩ := p17
  · show RUN d_X9_keeps 20 [(0, .inr (.inr (.inl 96))), (1, .inl a0)] [.inl x18] h3 _
    refine N_if_eq (a := x18.toInt) 39 rfl rfl rfl (fun c20 => ?_) (fun c20 => ?_)
    · refine R_bipush (-2) rfl rfl ?_
      exact R_iret rfl rfl rfl ⟨hI, fr, trivial, _, rfl, by rw [show ((-2) : Int32).toInt = (-2) from rfl] <;> omega⟩
    · exfalso; omega
  · show RUN d_X9_keeps 20 [(0, .inr (.inr (.inl 96))), (1, .inl a0)] [.inl x18] h3 _
    refine N_if_eq (a := x18.toInt) 39 rfl rfl rfl (fun c21 => ?_) (fun c21 => ?_)
    · refine R_bipush (-2) rfl rfl ?_
      exact R_iret rfl rfl rfl ⟨hI, fr, trivial, _, rfl, by rw [show ((-2) : Int32).toInt = (-2) from rfl] <;> omega⟩
    · exfalso; omega
  · show RUN d_X9_keeps 20 [(0, .inr (.inr (.inl 96))), (1, .inl a0)] [.inl x18] h3 _
    refine N_if_eq (a := x18.toInt) 39 rfl rfl rfl (fun c22 => ?_) (fun c22 => ?_)
    · exfalso; omega
    · refine R_aload_n (k := 0) rfl rfl rfl ?_
      refine R_iload_n (k := 1) rfl rfl rfl ?_
      refine R_callV (v := .inr (.inr (.inl 96))) (As := [.inl a0]) (rest := []) rfl mt_9_i402 pp_X9_keepsPair (by decide) rfl rfl rfl (Nat.le_of_ble_eq_true rfl) (Nat.le_of_ble_eq_true rfl) ((k_X9_keepsPair h3 hI a0 (by omega)).mono (fun r23 h24 p25 => ?_))
      obtain ⟨rfl, x26, rfl, q27 | q27⟩ := p25
      · show RUN d_X9_keeps 28 [(0, .inr (.inr (.inl 96))), (1, .inl a0)] [.inl x26] h3 _
        refine N_if_eq (a := x26.toInt) 35 rfl rfl rfl (fun c28 => ?_) (fun c28 => ?_)
        · exfalso; omega
        · refine R_iconst 1 rfl rfl ?_
          refine R_goto 41 rfl rfl ?_
          exact R_iret rfl rfl rfl ⟨hI, fr, trivial, _, rfl, by rw [show (1 : Int32).toInt = 1 from rfl] <;> omega⟩
      · show RUN d_X9_keeps 28 [(0, .inr (.inr (.inl 96))), (1, .inl a0)] [.inl x26] h3 _
        refine N_if_eq (a := x26.toInt) 35 rfl rfl rfl (fun c29 => ?_) (fun c29 => ?_)
        · refine R_iconst 0 rfl rfl ?_
          refine R_goto 41 rfl rfl ?_
          exact R_iret rfl rfl rfl ⟨hI, fr, trivial, _, rfl, by rw [show (0 : Int32).toInt = 0 from rfl] <;> omega⟩
        · exfalso; omega
abbrev q_X1_hasSecond (h : PH) (a0 : Int32) : Option PV → PH → Prop := fun r h' => h = h' ∧ ∃ z : Int32, r = some (.inl z) ∧ ((z.toInt = 0 ∧ a0.toInt ≤ (-1)) ∨ (z.toInt = 0 ∧ 0 ≤ a0.toInt ∧ (h.1 17 0).toInt ≤ a0.toInt + 0) ∨ (z.toInt = 1 ∧ 0 ≤ a0.toInt ∧ a0.toInt ≤ 59 ∧ 1 ≤ (h.1 17 0).toInt ∧ (h.1 17 0).toInt ≤ 60 ∧ a0.toInt ≤ (h.1 17 0).toInt + (-1)))
set_option maxHeartbeats 4000000 in
set_option maxRecDepth 100000 in
theorem k_X1_hasSecond (h : PH) (hI : INV h) (a0 : Int32) : CALL d_X1_hasSecond [.inr (.inr (.inl 16)), .inl a0] h (q_X1_hasSecond h a0) := by
  show RUN d_X1_hasSecond 0 [(0, .inr (.inr (.inl 16))), (1, .inl a0)] [] h _
  have b1 := i_rng a0
  refine R_iload_n (k := 1) rfl rfl rfl ?_
  refine N_if_lt (a := a0.toInt) 18 rfl rfl rfl (fun c2 => ?_) (fun c2 => ?_)
  · refine R_iconst 0 rfl rfl ?_
    exact R_iret rfl rfl rfl ⟨rfl, _, rfl, by rw [show (0 : Int32).toInt = 0 from rfl] <;> omega⟩
  · refine R_iload_n (k := 1) rfl rfl rfl ?_
    refine R_aload_n (k := 0) rfl rfl rfl ?_
    refine R_getf_r (j := 0) rfl ft_1_9 sh_16 rfl ?_
    refine R_iconst 0 rfl rfl ?_
    refine R_iald rfl sh_17 (by decide) ?_
    have b3 : (0 : Int) ≤ (h.1 17 0).toInt ∧ (h.1 17 0).toInt ≤ 60 := hI.1 17 0
    show RUN d_X1_hasSecond 11 [(0, .inr (.inr (.inl 16))), (1, .inl a0)] [.inl (h.1 17 0), .inl a0] h _
    refine N_icmp_ge (a := a0.toInt) (b := (h.1 17 0).toInt) 18 rfl rfl rfl rfl (fun c4 => ?_) (fun c4 => ?_)
    · refine R_iconst 0 rfl rfl ?_
      exact R_iret rfl rfl rfl ⟨rfl, _, rfl, by rw [show (0 : Int32).toInt = 0 from rfl] <;> omega⟩
    · refine R_iconst 1 rfl rfl ?_
      refine R_goto 19 rfl rfl ?_
      exact R_iret rfl rfl rfl ⟨rfl, _, rfl, by rw [show (1 : Int32).toInt = 1 from rfl] <;> omega⟩
abbrev q_X2_clearFor (h : PH)  : Option PV → PH → Prop := fun r h' => INV h' ∧ FR [70] h h' ∧ (True) ∧ r = none
set_option maxHeartbeats 4000000 in
set_option maxRecDepth 100000 in
theorem k_X2_clearFor (h : PH) (hI : INV h)  : CALL d_X2_clearFor [.inr (.inr (.inl 70)), .inr (.inr (.inl 16))] h (q_X2_clearFor h) := by
  show RUN d_X2_clearFor 0 [(0, .inr (.inr (.inl 70))), (1, .inr (.inr (.inl 16)))] [] h _
  have fr : FR [70] h h := FR.rf _ _
  refine R_aload_n (k := 0) rfl rfl rfl ?_
  refine R_iconst 0 rfl rfl ?_
  refine K_putf (j := 4) (lo := 0) (hi' := 6) rfl ft_2_25 sh_70 rfl hI (by decide) rfl (by decide) fr (by decide) (fun h1 g2 hI fr => ?_)
  have s3 : (h1.1 70 4).toInt = 0 := by rw [g2, wI_is]; rfl
  refine R_aload_n (k := 0) rfl rfl rfl ?_
  refine R_aload_n (k := 1) rfl rfl rfl ?_
  refine R_getf_r (j := 0) rfl ft_2_44 sh_16 rfl ?_
  refine R_iconst 1 rfl rfl ?_
  refine R_iald rfl sh_17 (by decide) ?_
  show RUN d_X2_clearFor 12 [(0, .inr (.inr (.inl 70))), (1, .inr (.inr (.inl 16)))] [.inl (h1.1 17 1), .inr (.inr (.inl 70))] h1 _
  refine K_putf (j := 5) (lo := (-2147483648)) (hi' := 2147483647) rfl ft_2_29 sh_70 rfl hI (by decide) rfl (i_rng _) fr (by decide) (fun h4 g5 hI fr => ?_)
  have s6 : (h4.1 70 4).toInt = (h1.1 70 4).toInt := by rw [g5, wI_at (by decide)]
  have s7 : (h4.1 17 1).toInt = (h1.1 17 1).toInt := by rw [g5, wI_ne _ _ _ (by decide)]
  have s8 : (h4.1 70 5).toInt = (h1.1 17 1).toInt := by rw [g5, wI_is]
  refine R_aload_n (k := 0) rfl rfl rfl ?_
  refine R_aload_n (k := 1) rfl rfl rfl ?_
  refine R_getf_r (j := 0) rfl ft_2_44 sh_16 rfl ?_
  refine R_iconst 2 rfl rfl ?_
  refine R_iald rfl sh_17 (by decide) ?_
  show RUN d_X2_clearFor 22 [(0, .inr (.inr (.inl 70))), (1, .inr (.inr (.inl 16)))] [.inl (h4.1 17 2), .inr (.inr (.inl 70))] h4 _
  refine K_putf (j := 6) (lo := (-2147483648)) (hi' := 2147483647) rfl ft_2_32 sh_70 rfl hI (by decide) rfl (i_rng _) fr (by decide) (fun h9 g10 hI fr => ?_)
  have s11 : (h9.1 70 4).toInt = (h4.1 70 4).toInt := by rw [g10, wI_at (by decide)]
  have s12 : (h9.1 17 1).toInt = (h4.1 17 1).toInt := by rw [g10, wI_ne _ _ _ (by decide)]
  have s13 : (h9.1 70 5).toInt = (h4.1 70 5).toInt := by rw [g10, wI_at (by decide)]
  have s14 : (h9.1 17 2).toInt = (h4.1 17 2).toInt := by rw [g10, wI_ne _ _ _ (by decide)]
  have s15 : (h9.1 70 6).toInt = (h4.1 17 2).toInt := by rw [g10, wI_is]
  refine R_aload_n (k := 0) rfl rfl rfl ?_
  refine R_aload_n (k := 1) rfl rfl rfl ?_
  refine R_getf_r (j := 0) rfl ft_2_44 sh_16 rfl ?_
  refine R_iconst 3 rfl rfl ?_
  refine R_iald rfl sh_17 (by decide) ?_
  show RUN d_X2_clearFor 32 [(0, .inr (.inr (.inl 70))), (1, .inr (.inr (.inl 16)))] [.inl (h9.1 17 3), .inr (.inr (.inl 70))] h9 _
  refine K_putf (j := 7) (lo := (-2147483648)) (hi' := 2147483647) rfl ft_2_35 sh_70 rfl hI (by decide) rfl (i_rng _) fr (by decide) (fun h16 g17 hI fr => ?_)
  have s18 : (h16.1 70 4).toInt = (h9.1 70 4).toInt := by rw [g17, wI_at (by decide)]
  have s19 : (h16.1 17 1).toInt = (h9.1 17 1).toInt := by rw [g17, wI_ne _ _ _ (by decide)]
  have s20 : (h16.1 70 5).toInt = (h9.1 70 5).toInt := by rw [g17, wI_at (by decide)]
  have s21 : (h16.1 17 2).toInt = (h9.1 17 2).toInt := by rw [g17, wI_ne _ _ _ (by decide)]
  have s22 : (h16.1 70 6).toInt = (h9.1 70 6).toInt := by rw [g17, wI_at (by decide)]
  have s23 : (h16.1 17 3).toInt = (h9.1 17 3).toInt := by rw [g17, wI_ne _ _ _ (by decide)]
  have s24 : (h16.1 70 7).toInt = (h9.1 17 3).toInt := by rw [g17, wI_is]
  exact R_vret rfl rfl ⟨hI, fr, trivial, rfl⟩
abbrev q_X2_join (h : PH) (a1 : Int32) : Option PV → PH → Prop := fun r h' => INV h' ∧ FR [70, 71, 72, 73] h h' ∧ (True) ∧ r = none
set_option maxHeartbeats 4000000 in
set_option maxRecDepth 100000 in
theorem k_X2_join (h : PH) (hI : INV h) (a1 : Int32) (h1a : 0 ≤ a1.toInt ∧ a1.toInt ≤ 7) : CALL d_X2_join [.inr (.inr (.inl 70)), .inr (.inr (.inl 16)), .inl a1] h (q_X2_join h a1) := by
  show RUN d_X2_join 0 [(0, .inr (.inr (.inl 70))), (1, .inr (.inr (.inl 16))), (2, .inl a1)] [] h _
  have fr : FR [70, 71, 72, 73] h h := FR.rf _ _
  refine R_aload_n (k := 0) rfl rfl rfl ?_
  refine R_getf_i (j := 4) rfl ft_2_25 sh_70 rfl ?_
  have b1 : (0 : Int) ≤ (h.1 70 4).toInt ∧ (h.1 70 4).toInt ≤ 6 := hI.1 70 4
  refine R_bipush 6 rfl rfl ?_
  refine N_icmp_ge (a := (h.1 70 4).toInt) (b := 6) 72 rfl rfl rfl (by decide) (fun c2 => ?_) (fun c2 => ?_)
  · exact R_vret rfl rfl ⟨hI, fr, trivial, rfl⟩
  · refine R_aload_n (k := 1) rfl rfl rfl ?_
    refine R_iload_n (k := 2) rfl rfl rfl ?_
    have b3 : (0 : Int) ≤ (h.1 17 5).toInt ∧ (h.1 17 5).toInt ≤ 6 := hI.1 17 5
    refine R_callV (v := .inr (.inr (.inl 16))) (As := [.inl a1]) (rest := []) rfl mt_2_i49 pp_X1_hasHand (by decide) rfl rfl rfl (Nat.le_of_ble_eq_true rfl) (Nat.le_of_ble_eq_true rfl) ((k_X1_hasHand h hI a1).mono (fun r4 h5 p6 => ?_))
    obtain ⟨rfl, x7, rfl, q8 | q8 | q8⟩ := p6
    · exfalso; omega
    · show RUN d_X2_join 14 [(0, .inr (.inr (.inl 70))), (1, .inr (.inr (.inl 16))), (2, .inl a1)] [.inl x7] h _
      refine N_if_eq (a := x7.toInt) 72 rfl rfl rfl (fun c9 => ?_) (fun c9 => ?_)
      · exact R_vret rfl rfl ⟨hI, fr, trivial, rfl⟩
      · exfalso; omega
    · show RUN d_X2_join 14 [(0, .inr (.inr (.inl 70))), (1, .inr (.inr (.inl 16))), (2, .inl a1)] [.inl x7] h _
      refine N_if_eq (a := x7.toInt) 72 rfl rfl rfl (fun c10 => ?_) (fun c10 => ?_)
      · exfalso; omega
      · refine R_aload_n (k := 0) rfl rfl rfl ?_
        refine R_getf_r (j := 0) rfl ft_2_9 sh_70 rfl ?_
        refine R_aload_n (k := 0) rfl rfl rfl ?_
        refine R_getf_i (j := 4) rfl ft_2_25 sh_70 rfl ?_
        refine R_aload_n (k := 1) rfl rfl rfl ?_
        refine R_getf_r (j := 2) rfl ft_2_53 sh_16 rfl ?_
        refine R_iload_n (k := 2) rfl rfl rfl ?_
        refine R_iald rfl sh_19 ⟨by omega, by omega⟩ ?_
        refine N_any (fun x11 => ?_)
        refine K_iast (a := (h.1 70 4).toInt) (lo := (-2147483648)) (hi' := 2147483647) rfl sh_71 rfl ⟨by omega, by omega⟩ hI (by decide) rfl (i_rng _) fr (by decide) (fun h12 g13 hI fr => ?_)
        have s14 : (h12.1 70 4).toInt = (h.1 70 4).toInt := by rw [g13, wI_ne _ _ _ (by decide)]
        have s15 : (h12.1 17 5).toInt = (h.1 17 5).toInt := by rw [g13, wI_ne _ _ _ (by decide)]
        refine R_aload_n (k := 0) rfl rfl rfl ?_
        refine R_getf_r (j := 1) rfl ft_2_15 sh_70 rfl ?_
        refine R_aload_n (k := 0) rfl rfl rfl ?_
        refine R_getf_i (j := 4) rfl ft_2_25 sh_70 rfl ?_
        refine R_aload_n (k := 1) rfl rfl rfl ?_
        refine R_getf_r (j := 3) rfl ft_2_54 sh_16 rfl ?_
        refine R_iload_n (k := 2) rfl rfl rfl ?_
        refine R_iald rfl sh_20 ⟨by omega, by omega⟩ ?_
        refine N_any (fun x16 => ?_)
        refine K_iast (a := (h12.1 70 4).toInt) (lo := (-2147483648)) (hi' := 2147483647) rfl sh_72 rfl ⟨by omega, by omega⟩ hI (by decide) rfl (i_rng _) fr (by decide) (fun h17 g18 hI fr => ?_)
        have s19 : (h17.1 70 4).toInt = (h12.1 70 4).toInt := by rw [g18, wI_ne _ _ _ (by decide)]
        have s20 : (h17.1 17 5).toInt = (h12.1 17 5).toInt := by rw [g18, wI_ne _ _ _ (by decide)]
        refine R_aload_n (k := 0) rfl rfl rfl ?_
        refine R_getf_r (j := 2) rfl ft_2_18 sh_70 rfl ?_
        refine R_aload_n (k := 0) rfl rfl rfl ?_
        refine R_getf_i (j := 4) rfl ft_2_25 sh_70 rfl ?_
        refine R_aload_n (k := 1) rfl rfl rfl ?_
        refine R_getf_r (j := 4) rfl ft_2_55 sh_16 rfl ?_
        refine R_iload_n (k := 2) rfl rfl rfl ?_
        refine R_lald rfl sh_21 ⟨by omega, by omega⟩ ?_
        refine N_anyL (fun w21 => ?_)
        refine K_last (a := (h17.1 70 4).toInt) rfl sh_73 rfl ⟨by omega, by omega⟩ hI fr (by decide) (fun h22 g23 hI fr => ?_)
        have s24 : (h22.1 70 4).toInt = (h17.1 70 4).toInt := by rw [g23, wL_fst]
        have s25 : (h22.1 17 5).toInt = (h17.1 17 5).toInt := by rw [g23, wL_fst]
        refine R_aload_n (k := 0) rfl rfl rfl ?_
        refine R_dup_r rfl ?_
        refine R_getf_i (j := 4) rfl ft_2_25 sh_70 rfl ?_
        refine R_iconst 1 rfl rfl ?_
        refine N_iadd (a := (h22.1 70 4).toInt) (b := 1) rfl rfl (by decide) (by omega) (fun x26 q27 => ?_)
        refine K_putf (j := 4) (lo := 0) (hi' := 6) rfl ft_2_25 sh_70 rfl hI (by decide) rfl (by omega) fr (by decide) (fun h28 g29 hI fr => ?_)
        have s30 : (h28.1 17 5).toInt = (h22.1 17 5).toInt := by rw [g29, wI_ne _ _ _ (by decide)]
        have s31 : (h28.1 70 4).toInt = x26.toInt := by rw [g29, wI_is]
        exact R_vret rfl rfl ⟨hI, fr, trivial, rfl⟩
abbrev q_X8_lineAsNow (h : PH)  : Option PV → PH → Prop := fun r h' => INV h' ∧ FR [70, 71, 72, 73] h h' ∧ (True) ∧ r = none
set_option maxHeartbeats 4000000 in
set_option maxRecDepth 100000 in
theorem k_X8_lineAsNow (h : PH) (hI : INV h)  : CALL d_X8_lineAsNow [.inr (.inr (.inl 0))] h (q_X8_lineAsNow h) := by
  show RUN d_X8_lineAsNow 0 [(0, .inr (.inr (.inl 0)))] [] h _
  have fr : FR [70, 71, 72, 73] h h := FR.rf _ _
  refine R_aload_n (k := 0) rfl rfl rfl ?_
  refine R_getf_r (j := 7) rfl ft_8_49 sh_0 rfl ?_
  refine R_aload_n (k := 0) rfl rfl rfl ?_
  refine R_getf_r (j := 3) rfl ft_8_28 sh_0 rfl ?_
  refine R_callV (v := .inr (.inr (.inl 70))) (As := [.inr (.inr (.inl 16))]) (rest := []) rfl mt_8_i426 pp_X2_clearFor (by decide) rfl rfl rfl (Nat.le_of_ble_eq_true rfl) (Nat.le_of_ble_eq_true rfl) ((k_X2_clearFor h hI).mono (fun r1 h2 p3 => ?_))
  obtain ⟨hJ, fj, -, rfl⟩ := p3
  have f4 := fj
  have fr := fr.trans fj (by decide)
  have hI := hJ
  show RUN d_X8_lineAsNow 11 [(0, .inr (.inr (.inl 0)))] [] h2 _
  refine R_iconst 0 rfl rfl ?_
  refine R_istore_n (k := 1) rfl [(1, .inl 0), (0, .inr (.inr (.inl 0)))] rfl rfl (by decide) ?_
  have lp6 : ∀ (n5 : Nat) (h7 : PH) (x9 : Int32), INV h7 → FR [70, 71, 72, 73] h h7 → FR [70, 71, 72, 73] h2 h7 → 0 ≤ x9.toInt ∧ x9.toInt ≤ 6 → (6 - x9.toInt).toNat < n5 → RUN d_X8_lineAsNow 13 [(1, .inl x9), (0, .inr (.inr (.inl 0)))] [] h7 (q_X8_lineAsNow h) := by
    intro n5
    induction n5 with
    | zero => intro h7 x9 m11 m12 m13 m14 hz; exact absurd hz (Nat.not_lt_zero _)
    | succ n5 ih10 =>
      intro h7 x9 hI fr fl8 m14 hz
      refine R_iload_n (k := 1) rfl rfl rfl ?_
      refine R_aload_n (k := 0) rfl rfl rfl ?_
      refine R_getf_r (j := 3) rfl ft_8_28 sh_0 rfl ?_
      refine R_getf_r (j := 0) rfl ft_8_109 sh_16 rfl ?_
      refine R_iconst 5 rfl rfl ?_
      refine R_iald rfl sh_17 (by decide) ?_
      have b15 : (0 : Int) ≤ (h7.1 17 5).toInt ∧ (h7.1 17 5).toInt ≤ 6 := hI.1 17 5
      show RUN d_X8_lineAsNow 23 [(1, .inl x9), (0, .inr (.inr (.inl 0)))] [.inl (h7.1 17 5), .inl x9] h7 _
      refine N_icmp_ge (a := x9.toInt) (b := (h7.1 17 5).toInt) 44 rfl rfl rfl rfl (fun c16 => ?_) (fun c16 => ?_)
      · exact R_vret rfl rfl ⟨hI, fr, trivial, rfl⟩
      · refine R_aload_n (k := 0) rfl rfl rfl ?_
        refine R_getf_r (j := 7) rfl ft_8_49 sh_0 rfl ?_
        refine R_aload_n (k := 0) rfl rfl rfl ?_
        refine R_getf_r (j := 3) rfl ft_8_28 sh_0 rfl ?_
        refine R_iload_n (k := 1) rfl rfl rfl ?_
        refine R_callV (v := .inr (.inr (.inl 70))) (As := [.inr (.inr (.inl 16)), .inl x9]) (rest := []) rfl mt_8_i429 pp_X2_join (by decide) rfl rfl rfl (Nat.le_of_ble_eq_true rfl) (Nat.le_of_ble_eq_true rfl) ((k_X2_join h7 hI x9 (by omega)).mono (fun r17 h18 p19 => ?_))
        obtain ⟨hJ, fj, -, rfl⟩ := p19
        have f20 := fj
        have fr := fr.trans fj (by decide)
        have hI := hJ
        have fl8 : FR [70, 71, 72, 73] h2 h18 := fl8.trans fj (by decide)
        have s21 : (h18.1 17 5).toInt = (h7.1 17 5).toInt := by rw [(f20 17 (by decide)).1]
        show RUN d_X8_lineAsNow 38 [(1, .inl x9), (0, .inr (.inr (.inl 0)))] [] h18 _
        refine N_iinc (a := x9.toInt) (c := 1) (fun w => [(1, .inl w), (0, .inr (.inr (.inl 0)))]) rfl rfl (fun _ => rfl) (by decide) rfl (by decide) (by omega) (fun x22 q23 => ?_)
        refine R_goto 13 rfl rfl ?_
        exact RUN_weak (psub_cons rfl (psub_cons rfl (psub_nil _))) (ih10 h18 x22 hI fr fl8 (by omega) (by omega))
  exact lp6 _ h2 (0 : Int32) hI fr (FR.rf _ _) (by decide) (Nat.lt_succ_self _)
abbrev q_X2_loadAt (h : PH) (a0 : Int32) : Option PV → PH → Prop := fun r h' => h = h' ∧ ∃ z : Int32, r = some (.inl z) ∧ ((True))
set_option maxHeartbeats 4000000 in
set_option maxRecDepth 100000 in
theorem k_X2_loadAt (h : PH) (hI : INV h) (a0 : Int32) (h0a : 0 ≤ a0.toInt ∧ a0.toInt ≤ 6) : CALL d_X2_loadAt [.inr (.inr (.inl 70)), .inl a0] h (q_X2_loadAt h a0) := by
  show RUN d_X2_loadAt 0 [(0, .inr (.inr (.inl 70))), (1, .inl a0)] [] h _
  refine R_aload_n (k := 0) rfl rfl rfl ?_
  refine R_getf_i (j := 6) rfl ft_2_32 sh_70 rfl ?_
  refine R_istore_n (k := 2) rfl [(2, .inl (h.1 70 6)), (0, .inr (.inr (.inl 70))), (1, .inl a0)] rfl rfl (by decide) ?_
  refine R_iconst 0 rfl rfl ?_
  refine R_istore_n (k := 3) rfl [(3, .inl 0), (2, .inl (h.1 70 6)), (0, .inr (.inr (.inl 70))), (1, .inl a0)] rfl rfl (by decide) ?_
  have lp2 : ∀ (n1 : Nat) (x3 : Int32) (x4 : Int32), 0 ≤ x4.toInt ∧ x4.toInt ≤ 6 → x4.toInt ≤ a0.toInt + 0 → (6 - x4.toInt).toNat < n1 → RUN d_X2_loadAt 7 [(3, .inl x4), (2, .inl x3), (0, .inr (.inr (.inl 70))), (1, .inl a0)] [] h (q_X2_loadAt h a0) := by
    intro n1
    induction n1 with
    | zero => intro x3 x4 m6 m7 hz; exact absurd hz (Nat.not_lt_zero _)
    | succ n1 ih5 =>
      intro x3 x4 m6 m7 hz
      refine R_iload_n (k := 3) rfl rfl rfl ?_
      refine R_iload_n (k := 1) rfl rfl rfl ?_
      refine N_icmp_ge (a := x4.toInt) (b := a0.toInt) 39 rfl rfl rfl rfl (fun c8 => ?_) (fun c8 => ?_)
      · refine R_iload_n (k := 2) rfl rfl rfl ?_
        exact R_iret rfl rfl rfl ⟨rfl, _, rfl, trivial⟩
      · refine R_iload_n (k := 3) rfl rfl rfl ?_
        refine R_aload_n (k := 0) rfl rfl rfl ?_
        refine R_getf_i (j := 4) rfl ft_2_25 sh_70 rfl ?_
        have b9 : (0 : Int) ≤ (h.1 70 4).toInt ∧ (h.1 70 4).toInt ≤ 6 := hI.1 70 4
        refine N_icmp_ge (a := x4.toInt) (b := (h.1 70 4).toInt) 39 rfl rfl rfl rfl (fun c10 => ?_) (fun c10 => ?_)
        · refine R_iload_n (k := 2) rfl rfl rfl ?_
          exact R_iret rfl rfl rfl ⟨rfl, _, rfl, trivial⟩
        · refine R_iconst 0 rfl rfl ?_
          refine R_iload_n (k := 2) rfl rfl rfl ?_
          refine R_aload_n (k := 0) rfl rfl rfl ?_
          refine R_getf_r (j := 1) rfl ft_2_15 sh_70 rfl ?_
          refine R_iload_n (k := 3) rfl rfl rfl ?_
          refine R_iald rfl sh_72 ⟨by omega, by omega⟩ ?_
          refine N_any (fun x11 => ?_)
          have b12 := i_rng x3
          have b13 := i_rng x11
          refine R_isub rfl ?_
          refine N_any (fun x14 => ?_)
          refine N_max (a := 0) (b := x14.toInt) rfl mt_2_i56 (by decide) rfl ⟨by decide, by decide, Nat.le_of_ble_eq_true rfl⟩ (fun x15 q16 => ?_)
          refine R_istore_n (k := 2) rfl [(2, .inl x15), (3, .inl x4), (0, .inr (.inr (.inl 70))), (1, .inl a0)] rfl rfl (by decide) ?_
          refine N_iinc (a := x4.toInt) (c := 1) (fun w => [(3, .inl w), (2, .inl x15), (0, .inr (.inr (.inl 70))), (1, .inl a0)]) rfl rfl (fun _ => rfl) (by decide) rfl (by decide) (by omega) (fun x17 q18 => ?_)
          refine R_goto 7 rfl rfl ?_
          exact RUN_weak (psub_cons rfl (psub_cons rfl (psub_cons rfl (psub_cons rfl (psub_nil _))))) (ih5 x15 x17 (by omega) (by omega) (by omega))
  have k19 : (0 : Int32).toInt = 0 := by decide
  exact lp2 _ (h.1 70 6) (0 : Int32) (by decide) (by omega) (Nat.lt_succ_self _)
abbrev q_X2_poured (h : PH)  : Option PV → PH → Prop := fun r h' => h = h' ∧ ∃ z : Int32, r = some (.inl z) ∧ ((True))
set_option maxHeartbeats 4000000 in
set_option maxRecDepth 100000 in
theorem k_X2_poured (h : PH) (hI : INV h)  : CALL d_X2_poured [.inr (.inr (.inl 70))] h (q_X2_poured h) := by
  show RUN d_X2_poured 0 [(0, .inr (.inr (.inl 70)))] [] h _
  refine R_aload_n (k := 0) rfl rfl rfl ?_
  refine R_aload_n (k := 0) rfl rfl rfl ?_
  refine R_getf_i (j := 4) rfl ft_2_25 sh_70 rfl ?_
  have b1 : (0 : Int) ≤ (h.1 70 4).toInt ∧ (h.1 70 4).toInt ≤ 6 := hI.1 70 4
  refine R_callV (v := .inr (.inr (.inl 70))) (As := [.inl (h.1 70 4)]) (rest := []) rfl mt_2_i62 pp_X2_loadAt (by decide) rfl rfl rfl (Nat.le_of_ble_eq_true rfl) (Nat.le_of_ble_eq_true rfl) ((k_X2_loadAt h hI (h.1 70 4) (by omega)).mono (fun r2 h3 p4 => ?_))
  obtain ⟨rfl, x5, rfl, q6⟩ := p4
  show RUN d_X2_poured 8 [(0, .inr (.inr (.inl 70)))] [.inl x5] h _
  exact R_iret rfl rfl rfl ⟨rfl, _, rfl, trivial⟩
abbrev q_X2_begin (h : PH)  : Option PV → PH → Prop := fun r h' => INV h' ∧ FR [70, 74] h h' ∧ ((h'.1 70 5).toInt = (h.1 70 5).toInt ∧ True) ∧ r = none
set_option maxHeartbeats 4000000 in
set_option maxRecDepth 100000 in
theorem k_X2_begin (h : PH) (hI : INV h)  : CALL d_X2_begin [.inr (.inr (.inl 70))] h (q_X2_begin h) := by
  show RUN d_X2_begin 0 [(0, .inr (.inr (.inl 70)))] [] h _
  have fr : FR [70, 74] h h := FR.rf _ _
  refine R_iconst 0 rfl rfl ?_
  refine R_istore_n (k := 1) rfl [(1, .inl 0), (0, .inr (.inr (.inl 70)))] rfl rfl (by decide) ?_
  have lp2 : ∀ (n1 : Nat) (h3 : PH) (x5 : Int32), INV h3 → FR [70, 74] h h3 → FR [70, 74] h h3 → 0 ≤ x5.toInt ∧ x5.toInt ≤ 6 → (h3.1 70 5).toInt = (h.1 70 5).toInt → (6 - x5.toInt).toNat < n1 → RUN d_X2_begin 2 [(1, .inl x5), (0, .inr (.inr (.inl 70)))] [] h3 (q_X2_begin h) := by
    intro n1
    induction n1 with
    | zero => intro h3 x5 m7 m8 m9 m10 m11 hz; exact absurd hz (Nat.not_lt_zero _)
    | succ n1 ih6 =>
      intro h3 x5 hI fr fl4 m10 m11 hz
      refine R_iload_n (k := 1) rfl rfl rfl ?_
      refine R_bipush 6 rfl rfl ?_
      refine N_icmp_ge (a := x5.toInt) (b := 6) 21 rfl rfl rfl (by decide) (fun c12 => ?_) (fun c12 => ?_)
      · refine R_aload_n (k := 0) rfl rfl rfl ?_
        refine R_aload_n (k := 0) rfl rfl rfl ?_
        refine R_getf_i (j := 5) rfl ft_2_29 sh_70 rfl ?_
        refine K_putf (j := 8) (lo := (-2147483648)) (hi' := 2147483647) rfl ft_2_38 sh_70 rfl hI (by decide) rfl (i_rng _) fr (by decide) (fun h13 g14 hI fr => ?_)
        have fl4 : FR [70, 74] h h13 := by rw [g14]; exact FR_wI _ _ fl4 (by decide)
        have s15 : (h13.1 70 5).toInt = (h3.1 70 5).toInt := by rw [g14, wI_at (by decide)]
        have s16 : (h13.1 70 8).toInt = (h3.1 70 5).toInt := by rw [g14, wI_is]
        refine R_aload_n (k := 0) rfl rfl rfl ?_
        refine R_iconst 0 rfl rfl ?_
        refine K_putf (j := 9) (lo := (-2147483648)) (hi' := 2147483647) rfl ft_2_41 sh_70 rfl hI (by decide) rfl (by decide) fr (by decide) (fun h17 g18 hI fr => ?_)
        have fl4 : FR [70, 74] h h17 := by rw [g18]; exact FR_wI _ _ fl4 (by decide)
        have s19 : (h17.1 70 5).toInt = (h13.1 70 5).toInt := by rw [g18, wI_at (by decide)]
        have s20 : (h17.1 70 8).toInt = (h13.1 70 8).toInt := by rw [g18, wI_at (by decide)]
        have s21 : (h17.1 70 9).toInt = 0 := by rw [g18, wI_is]; rfl
        exact R_vret rfl rfl ⟨hI, fr, ⟨by omega, trivial⟩, rfl⟩
      · refine R_aload_n (k := 0) rfl rfl rfl ?_
        refine R_getf_r (j := 3) rfl ft_2_22 sh_70 rfl ?_
        refine R_iload_n (k := 1) rfl rfl rfl ?_
        refine R_iconst 0 rfl rfl ?_
        refine K_iast (a := x5.toInt) (lo := (-2147483648)) (hi' := 2147483647) rfl sh_74 rfl ⟨by omega, by omega⟩ hI (by decide) rfl (by decide) fr (by decide) (fun h22 g23 hI fr => ?_)
        have fl4 : FR [70, 74] h h22 := by rw [g23]; exact FR_wI _ _ fl4 (by decide)
        have s24 : (h22.1 70 5).toInt = (h3.1 70 5).toInt := by rw [g23, wI_ne _ _ _ (by decide)]
        refine N_iinc (a := x5.toInt) (c := 1) (fun w => [(1, .inl w), (0, .inr (.inr (.inl 70)))]) rfl rfl (fun _ => rfl) (by decide) rfl (by decide) (by omega) (fun x25 q26 => ?_)
        refine R_goto 2 rfl rfl ?_
        exact RUN_weak (psub_cons rfl (psub_cons rfl (psub_nil _))) (ih6 h22 x25 hI fr fl4 (by omega) (by omega) (by omega))
  exact lp2 _ h (0 : Int32) hI fr (FR.rf _ _) (by decide) rfl (Nat.lt_succ_self _)
abbrev q_X2_readyBits (h : PH)  : Option PV → PH → Prop := fun r h' => h = h' ∧ ∃ z : Int32, r = some (.inl z) ∧ ((True))
set_option maxHeartbeats 4000000 in
set_option maxRecDepth 100000 in
theorem k_X2_readyBits (h : PH) (hI : INV h)  : CALL d_X2_readyBits [.inr (.inr (.inl 70))] h (q_X2_readyBits h) := by
  show RUN d_X2_readyBits 0 [(0, .inr (.inr (.inl 70)))] [] h _
  refine R_iconst 0 rfl rfl ?_
  refine R_istore_n (k := 1) rfl [(1, .inl 0), (0, .inr (.inr (.inl 70)))] rfl rfl (by decide) ?_
  refine R_iconst 0 rfl rfl ?_
  refine R_istore_n (k := 2) rfl [(2, .inl 0), (1, .inl 0), (0, .inr (.inr (.inl 70)))] rfl rfl (by decide) ?_
  have lp2 : ∀ (n1 : Nat) (x3 : Int32) (x4 : Int32), 0 ≤ x4.toInt ∧ x4.toInt ≤ 6 → (6 - x4.toInt).toNat < n1 → RUN d_X2_readyBits 4 [(2, .inl x4), (1, .inl x3), (0, .inr (.inr (.inl 70)))] [] h (q_X2_readyBits h) := by
    intro n1
    induction n1 with
    | zero => intro x3 x4 m6 hz; exact absurd hz (Nat.not_lt_zero _)
    | succ n1 ih5 =>
      intro x3 x4 m6 hz
      refine R_iload_n (k := 2) rfl rfl rfl ?_
      refine R_aload_n (k := 0) rfl rfl rfl ?_
      refine R_getf_i (j := 4) rfl ft_2_25 sh_70 rfl ?_
      have b7 : (0 : Int) ≤ (h.1 70 4).toInt ∧ (h.1 70 4).toInt ≤ 6 := hI.1 70 4
      refine N_icmp_ge (a := x4.toInt) (b := (h.1 70 4).toInt) 48 rfl rfl rfl rfl (fun c8 => ?_) (fun c8 => ?_)
      · refine R_iload_n (k := 1) rfl rfl rfl ?_
        exact R_iret rfl rfl rfl ⟨rfl, _, rfl, trivial⟩
      · refine R_aload_n (k := 0) rfl rfl rfl ?_
        refine R_getf_r (j := 3) rfl ft_2_22 sh_70 rfl ?_
        refine R_iload_n (k := 2) rfl rfl rfl ?_
        refine R_iald rfl sh_74 ⟨by omega, by omega⟩ ?_
        refine N_any (fun x9 => ?_)
        refine N_if_le (a := x9.toInt) 42 rfl rfl rfl (fun c10 => ?_) (fun c10 => ?_)
        · refine N_iinc (a := x4.toInt) (c := 1) (fun w => [(2, .inl w), (1, .inl x3), (0, .inr (.inr (.inl 70)))]) rfl rfl (fun _ => rfl) (by decide) rfl (by decide) (by omega) (fun x11 q12 => ?_)
          refine R_goto 4 rfl rfl ?_
          exact RUN_weak (psub_cons rfl (psub_cons rfl (psub_cons rfl (psub_nil _)))) (ih5 x3 x11 (by omega) (by omega))
        · refine R_aload_n (k := 0) rfl rfl rfl ?_
          refine R_getf_r (j := 3) rfl ft_2_22 sh_70 rfl ?_
          refine R_iload_n (k := 2) rfl rfl rfl ?_
          refine R_iald rfl sh_74 ⟨by omega, by omega⟩ ?_
          refine N_any (fun x13 => ?_)
          refine R_aload_n (k := 0) rfl rfl rfl ?_
          refine R_getf_r (j := 0) rfl ft_2_9 sh_70 rfl ?_
          refine R_iload_n (k := 2) rfl rfl rfl ?_
          refine R_iald rfl sh_71 ⟨by omega, by omega⟩ ?_
          refine N_any (fun x14 => ?_)
          refine N_icmp_lt (a := x13.toInt) (b := x14.toInt) 42 rfl rfl rfl rfl (fun c15 => ?_) (fun c15 => ?_)
          · refine N_iinc (a := x4.toInt) (c := 1) (fun w => [(2, .inl w), (1, .inl x3), (0, .inr (.inr (.inl 70)))]) rfl rfl (fun _ => rfl) (by decide) rfl (by decide) (by omega) (fun x16 q17 => ?_)
            refine R_goto 4 rfl rfl ?_
            exact RUN_weak (psub_cons rfl (psub_cons rfl (psub_cons rfl (psub_nil _)))) (ih5 x3 x16 (by omega) (by omega))
          · refine R_iload_n (k := 1) rfl rfl rfl ?_
            refine R_iconst 1 rfl rfl ?_
            refine R_iload_n (k := 2) rfl rfl rfl ?_
            refine N_ishl1 (b := x4.toInt) rfl rfl (by omega) (fun x18 q19 => ?_)
            refine R_ior rfl ?_
            refine N_any (fun x20 => ?_)
            refine R_istore_n (k := 1) rfl [(1, .inl x20), (2, .inl x4), (0, .inr (.inr (.inl 70)))] rfl rfl (by decide) ?_
            refine N_iinc (a := x4.toInt) (c := 1) (fun w => [(2, .inl w), (1, .inl x20), (0, .inr (.inr (.inl 70)))]) rfl rfl (fun _ => rfl) (by decide) rfl (by decide) (by omega) (fun x21 q22 => ?_)
            refine R_goto 4 rfl rfl ?_
            exact RUN_weak (psub_cons rfl (psub_cons rfl (psub_cons rfl (psub_nil _)))) (ih5 x20 x21 (by omega) (by omega))
  exact lp2 _ (0 : Int32) (0 : Int32) (by decide) (Nat.lt_succ_self _)
abbrev q_X8_hasBit (h : PH) (a0 : Int64) (a1 : Int32) : Option PV → PH → Prop := fun r h' => h = h' ∧ ∃ z : Int32, r = some (.inl z) ∧ ((z.toInt = 0) ∨ (z.toInt = 1))
set_option maxHeartbeats 4000000 in
set_option maxRecDepth 100000 in
theorem k_X8_hasBit (h : PH) (hI : INV h) (a0 : Int64) (a1 : Int32) : CALL d_X8_hasBit [.inr (.inl a0), .inl a1] h (q_X8_hasBit h a0 a1) := by
  show RUN d_X8_hasBit 0 [(0, .inr (.inl a0)), (2, .inl a1)] [] h _
  have b1 := i_rng a1
  refine R_lload_n (k := 0) rfl rfl rfl ?_
  refine R_iload_n (k := 2) rfl rfl rfl ?_
  refine R_lushr rfl ?_
  refine N_anyL (fun w2 => ?_)
  refine R_lconst 1 rfl rfl ?_
  refine R_land rfl ?_
  refine N_anyL (fun w3 => ?_)
  refine R_lconst 0 rfl rfl ?_
  refine N_lcmp (a := w3.toInt) (b := 0) rfl rfl (by decide) (fun x4 q5 => ?_)
  refine N_if_eq (a := x4.toInt) 14 rfl rfl rfl (fun c6 => ?_) (fun c6 => ?_)
  · refine R_iconst 0 rfl rfl ?_
    exact R_iret rfl rfl rfl ⟨rfl, _, rfl, by rw [show (0 : Int32).toInt = 0 from rfl] <;> omega⟩
  · refine R_iconst 1 rfl rfl ?_
    refine R_goto 15 rfl rfl ?_
    exact R_iret rfl rfl rfl ⟨rfl, _, rfl, by rw [show (1 : Int32).toInt = 1 from rfl] <;> omega⟩
abbrev q_X2_nextIsFree (h : PH) (a0 : Int32) (a1 : Int32) : Option PV → PH → Prop := fun r h' => h = h' ∧ ∃ z : Int32, r = some (.inl z) ∧ ((z.toInt = 1 ∧ (h.1 70 4).toInt ≤ a0.toInt + 1) ∨ (z.toInt = 0 ∧ 0 ≤ a0.toInt ∧ a0.toInt ≤ 4 ∧ 2 ≤ (h.1 70 4).toInt ∧ (h.1 70 4).toInt ≤ 6 ∧ a0.toInt ≤ (h.1 70 4).toInt + (-2)) ∨ (z.toInt = 1 ∧ 0 ≤ a0.toInt ∧ a0.toInt ≤ 4 ∧ 2 ≤ (h.1 70 4).toInt ∧ (h.1 70 4).toInt ≤ 6 ∧ a0.toInt ≤ (h.1 70 4).toInt + (-2)))
set_option maxHeartbeats 4000000 in
set_option maxRecDepth 100000 in
theorem k_X2_nextIsFree (h : PH) (hI : INV h) (a0 : Int32) (a1 : Int32) (h0a : 0 ≤ a0.toInt ∧ a0.toInt ≤ 5) (h1a : 0 ≤ a1.toInt ∧ a1.toInt ≤ 59) : CALL d_X2_nextIsFree [.inr (.inr (.inl 70)), .inl a0, .inl a1] h (q_X2_nextIsFree h a0 a1) := by
  show RUN d_X2_nextIsFree 0 [(0, .inr (.inr (.inl 70))), (1, .inl a0), (2, .inl a1)] [] h _
  refine R_iload_n (k := 1) rfl rfl rfl ?_
  refine R_iconst 1 rfl rfl ?_
  refine N_iadd (a := a0.toInt) (b := 1) rfl rfl (by decide) (by omega) (fun x1 q2 => ?_)
  refine R_istore_n (k := 3) rfl [(3, .inl x1), (0, .inr (.inr (.inl 70))), (1, .inl a0), (2, .inl a1)] rfl rfl (by decide) ?_
  refine R_iload_n (k := 3) rfl rfl rfl ?_
  refine R_aload_n (k := 0) rfl rfl rfl ?_
  refine R_getf_i (j := 4) rfl ft_2_25 sh_70 rfl ?_
  have b3 : (0 : Int) ≤ (h.1 70 4).toInt ∧ (h.1 70 4).toInt ≤ 6 := hI.1 70 4
  refine N_icmp_ge (a := x1.toInt) (b := (h.1 70 4).toInt) 36 rfl rfl rfl rfl (fun c4 => ?_) (fun c4 => ?_)
  · refine R_iconst 1 rfl rfl ?_
    refine R_goto 41 rfl rfl ?_
    exact R_iret rfl rfl rfl ⟨rfl, _, rfl, by rw [show (1 : Int32).toInt = 1 from rfl] <;> omega⟩
  · refine R_aload_n (k := 0) rfl rfl rfl ?_
    refine R_getf_r (j := 3) rfl ft_2_22 sh_70 rfl ?_
    refine R_iload_n (k := 3) rfl rfl rfl ?_
    refine R_iald rfl sh_74 ⟨by omega, by omega⟩ ?_
    refine N_any (fun x5 => ?_)
    refine N_if_ne (a := x5.toInt) 40 rfl rfl rfl (fun c6 => ?_) (fun c6 => ?_)
    · refine R_iconst 0 rfl rfl ?_
      exact R_iret rfl rfl rfl ⟨rfl, _, rfl, by rw [show (0 : Int32).toInt = 0 from rfl] <;> omega⟩
    · refine R_aload_n (k := 0) rfl rfl rfl ?_
      refine R_getf_r (j := 2) rfl ft_2_18 sh_70 rfl ?_
      refine R_iload_n (k := 3) rfl rfl rfl ?_
      refine R_lald rfl sh_73 ⟨by omega, by omega⟩ ?_
      refine N_anyL (fun w7 => ?_)
      refine R_iload_n (k := 2) rfl rfl rfl ?_
      refine R_lushr rfl ?_
      refine N_anyL (fun w8 => ?_)
      refine R_lconst 1 rfl rfl ?_
      refine R_land rfl ?_
      refine N_anyL (fun w9 => ?_)
      refine R_lconst 0 rfl rfl ?_
      refine N_lcmp (a := w9.toInt) (b := 0) rfl rfl (by decide) (fun x10 q11 => ?_)
      refine N_if_ne (a := x10.toInt) 40 rfl rfl rfl (fun c12 => ?_) (fun c12 => ?_)
      · refine R_iconst 0 rfl rfl ?_
        exact R_iret rfl rfl rfl ⟨rfl, _, rfl, by rw [show (0 : Int32).toInt = 0 from rfl] <;> omega⟩
      · refine R_iconst 1 rfl rfl ?_
        refine R_goto 41 rfl rfl ?_
        exact R_iret rfl rfl rfl ⟨rfl, _, rfl, by rw [show (1 : Int32).toInt = 1 from rfl] <;> omega⟩
abbrev q_X2_passOn (h : PH) (a0 : Int32) : Option PV → PH → Prop := fun r h' => INV h' ∧ FR [74] h h' ∧ (True) ∧ r = none
set_option maxHeartbeats 4000000 in
set_option maxRecDepth 100000 in
theorem k_X2_passOn (h : PH) (hI : INV h) (a0 : Int32) (h0a : 0 ≤ a0.toInt ∧ a0.toInt ≤ 5) : CALL d_X2_passOn [.inr (.inr (.inl 70)), .inl a0] h (q_X2_passOn h a0) := by
  show RUN d_X2_passOn 0 [(0, .inr (.inr (.inl 70))), (1, .inl a0)] [] h _
  have fr : FR [74] h h := FR.rf _ _
  refine R_aload_n (k := 0) rfl rfl rfl ?_
  refine R_getf_r (j := 3) rfl ft_2_22 sh_70 rfl ?_
  refine R_iload_n (k := 1) rfl rfl rfl ?_
  refine R_iconst 0 rfl rfl ?_
  refine K_iast (a := a0.toInt) (lo := (-2147483648)) (hi' := 2147483647) rfl sh_74 rfl ⟨by omega, by omega⟩ hI (by decide) rfl (by decide) fr (by decide) (fun h1 g2 hI fr => ?_)
  refine R_iload_n (k := 1) rfl rfl rfl ?_
  refine R_iconst 1 rfl rfl ?_
  refine N_iadd (a := a0.toInt) (b := 1) rfl rfl (by decide) (by omega) (fun x3 q4 => ?_)
  refine R_aload_n (k := 0) rfl rfl rfl ?_
  refine R_getf_i (j := 4) rfl ft_2_25 sh_70 rfl ?_
  have b5 : (0 : Int) ≤ (h1.1 70 4).toInt ∧ (h1.1 70 4).toInt ≤ 6 := hI.1 70 4
  refine N_icmp_ge (a := x3.toInt) (b := (h1.1 70 4).toInt) 26 rfl rfl rfl rfl (fun c6 => ?_) (fun c6 => ?_)
  · exact R_vret rfl rfl ⟨hI, fr, trivial, rfl⟩
  · refine R_aload_n (k := 0) rfl rfl rfl ?_
    refine R_getf_r (j := 3) rfl ft_2_22 sh_70 rfl ?_
    refine R_iload_n (k := 1) rfl rfl rfl ?_
    refine R_iconst 1 rfl rfl ?_
    refine N_iadd (a := a0.toInt) (b := 1) rfl rfl (by decide) (by omega) (fun x7 q8 => ?_)
    refine R_iconst 1 rfl rfl ?_
    refine K_iast (a := x7.toInt) (lo := (-2147483648)) (hi' := 2147483647) rfl sh_74 rfl ⟨by omega, by omega⟩ hI (by decide) rfl (by decide) fr (by decide) (fun h9 g10 hI fr => ?_)
    have s11 : (h9.1 70 4).toInt = (h1.1 70 4).toInt := by rw [g10, wI_ne _ _ _ (by decide)]
    exact R_vret rfl rfl ⟨hI, fr, trivial, rfl⟩
abbrev q_X2_isThrow (h : PH) (a0 : Int32) : Option PV → PH → Prop := fun r h' => h = h' ∧ ∃ z : Int32, r = some (.inl z) ∧ ((z.toInt = 0 ∧ (h.1 70 4).toInt = 0) ∨ (z.toInt = 0 ∧ 1 ≤ (h.1 70 4).toInt ∧ (h.1 70 4).toInt ≤ 6) ∨ (z.toInt = 1 ∧ 1 ≤ (h.1 70 4).toInt ∧ (h.1 70 4).toInt ≤ 6))
set_option maxHeartbeats 4000000 in
set_option maxRecDepth 100000 in
theorem k_X2_isThrow (h : PH) (hI : INV h) (a0 : Int32) : CALL d_X2_isThrow [.inr (.inr (.inl 70)), .inl a0] h (q_X2_isThrow h a0) := by
  show RUN d_X2_isThrow 0 [(0, .inr (.inr (.inl 70))), (1, .inl a0)] [] h _
  have b1 := i_rng a0
  refine R_aload_n (k := 0) rfl rfl rfl ?_
  refine R_getf_i (j := 4) rfl ft_2_25 sh_70 rfl ?_
  have b2 : (0 : Int) ≤ (h.1 70 4).toInt ∧ (h.1 70 4).toInt ≤ 6 := hI.1 70 4
  refine N_if_le (a := (h.1 70 4).toInt) 24 rfl rfl rfl (fun c3 => ?_) (fun c3 => ?_)
  · refine R_iconst 0 rfl rfl ?_
    exact R_iret rfl rfl rfl ⟨rfl, _, rfl, by rw [show (0 : Int32).toInt = 0 from rfl] <;> omega⟩
  · refine R_iload_n (k := 1) rfl rfl rfl ?_
    refine R_aload_n (k := 0) rfl rfl rfl ?_
    refine R_getf_i (j := 4) rfl ft_2_25 sh_70 rfl ?_
    refine R_iconst 1 rfl rfl ?_
    refine N_isub (a := (h.1 70 4).toInt) (b := 1) rfl rfl (by decide) (by omega) (fun x4 q5 => ?_)
    refine R_ishr rfl ?_
    refine N_any (fun x6 => ?_)
    refine R_iconst 1 rfl rfl ?_
    refine N_iand (b := 1) rfl (by decide) (by omega) (fun x7 q8 => ?_)
    refine N_if_eq (a := x7.toInt) 24 rfl rfl rfl (fun c9 => ?_) (fun c9 => ?_)
    · refine R_iconst 0 rfl rfl ?_
      exact R_iret rfl rfl rfl ⟨rfl, _, rfl, by rw [show (0 : Int32).toInt = 0 from rfl] <;> omega⟩
    · refine R_iconst 1 rfl rfl ?_
      refine R_goto 25 rfl rfl ?_
      exact R_iret rfl rfl rfl ⟨rfl, _, rfl, by rw [show (1 : Int32).toInt = 1 from rfl] <;> omega⟩
