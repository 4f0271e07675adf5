abbrev q_X9_brigade (h : PH)  : Option PV → PH → Prop := fun r h' => INV h' ∧ FR [96, 97, 102] h h' ∧ (True) ∧ ∃ z : Int32, r = some (.inl z) ∧ ((True))
theorem k_X9_brigade (h : PH) (hI : INV h)  : CALL d_X9_brigade [.inr (.inr (.inl 96))] h (q_X9_brigade h) := by
  refine (g_X9_brigade h hI).mono (fun r h' p => ?_)
  obtain ⟨a, b, c, d⟩ := p
  exact ⟨a, (FR.rf _ h).trans b (by decide), trivial, d⟩

abbrev q_X9_crowded (h : PH)  : Option PV → PH → Prop := fun r h' => INV h' ∧ FR [96, 103, 104, 105, 106, 107, 108, 109, 110, 111, 112, 113, 114, 115, 116, 117, 118, 119] h h' ∧ (True) ∧ ∃ z : Int32, r = some (.inl z) ∧ ((True))
theorem k_X9_crowded (h : PH) (hI : INV h)  : CALL d_X9_crowded [.inr (.inr (.inl 96))] h (q_X9_crowded h) := by
  refine (g_X9_crowded h hI).mono (fun r h' p => ?_)
  obtain ⟨a, b, -, z, e, -⟩ := p
  exact ⟨a, (FR.rf _ h).trans b (by decide), trivial, z, e, trivial⟩

abbrev q_X9_layRound (h : PH)  : Option PV → PH → Prop := fun r h' => INV h' ∧ FR [96, 103, 104, 105, 106, 107, 108, 109, 117, 118, 121, 122] h h' ∧ ((1 ≤ (h'.1 96 42).toInt) ∧ True) ∧ r = none
theorem k_X9_layRound (h : PH) (hI : INV h)  : CALL d_X9_layRound [.inr (.inr (.inl 96))] h (q_X9_layRound h) := by
  refine (g_X9_layRound h hI).mono (fun r h' p => ?_)
  obtain ⟨a, b, c, e⟩ := p
  exact ⟨a, (FR.rf _ h).trans b (by decide), ⟨by omega, trivial⟩, e⟩

abbrev q_X9_enough (h : PH)  : Option PV → PH → Prop := fun r h' => INV h' ∧ FR [96, 103, 104, 105, 106, 107, 108, 109, 110, 111, 112, 113, 114, 115, 116, 117, 118, 119] h h' ∧ (True) ∧ ∃ z : Int32, r = some (.inl z) ∧ ((True))
theorem k_X9_enough (h : PH) (hI : INV h)  : CALL d_X9_enough [.inr (.inr (.inl 96))] h (q_X9_enough h) := by
  refine (g_X9_enough h hI).mono (fun r h' p => ?_)
  obtain ⟨a, b, -, z, e, -⟩ := p
  exact ⟨a, (FR.rf _ h).trans b (by decide), trivial, z, e, trivial⟩

abbrev q_X9_asksOrders (h : PH)  : Option PV → PH → Prop := fun r h' => INV h' ∧ FR [96, 103, 104, 105, 106, 107, 108, 109, 110, 111, 112, 113, 114, 115, 116, 117, 118, 119, 120, 123] h h' ∧ (True) ∧ ∃ z : Int32, r = some (.inl z) ∧ ((z.toInt = 0 ∧ (h.1 97 10).toInt ≤ 0) ∨ (z.toInt = 1 ∧ 1 ≤ (h.1 97 0).toInt ∧ (h.1 97 0).toInt ≤ 60 ∧ 1 ≤ (h.1 97 10).toInt))
theorem k_X9_asksOrders (h : PH) (hI : INV h)  : CALL d_X9_asksOrders [.inr (.inr (.inl 96))] h (q_X9_asksOrders h) := by
  refine (g_X9_asksOrders h hI).mono (fun r h' p => ?_)
  obtain ⟨a, b, c, d⟩ := p
  exact ⟨a, (FR.rf _ h).trans b (by decide), trivial, d⟩

abbrev q_X9_hasOrder (h : PH) (a0 : Int32) : Option PV → PH → Prop := fun r h' => INV h' ∧ FR [96, 103, 104, 105, 106] h h' ∧ (True) ∧ ∃ z : Int32, r = some (.inl z) ∧ ((z.toInt = 0) ∨ (z.toInt = 1))
theorem k_X9_hasOrder (h : PH) (hI : INV h) (a0 : Int32) (h0a : 0 ≤ a0.toInt ∧ a0.toInt ≤ 31) : CALL d_X9_hasOrder [.inr (.inr (.inl 96)), .inl a0] h (q_X9_hasOrder h a0) := by
  refine (g_X9_hasOrder h hI a0 h0a).mono (fun r h' p => ?_)
  obtain ⟨a, b, c, d⟩ := p
  exact ⟨a, (FR.rf _ h).trans b (by decide), trivial, d⟩

abbrev q_X3_thrownTo (h : PH) (a0 : Int64) (a1 : Int64) : Option PV → PH → Prop := fun r h' => h = h' ∧ ∃ z : Int32, r = some (.inl z) ∧ (((0 ≤ z.toInt ∧ z.toInt ≤ 127)) ∧ (0 ≤ z.toInt) ∧ (0 ≤ a1.toInt ∧ a1.toInt ≤ 59 → z.toInt ≤ 60) ∧ True)
theorem k_X3_thrownTo (h : PH) (hI : INV h) (a0 : Int64) (a1 : Int64) : CALL d_X3_thrownTo [.inr (.inl a0), .inr (.inl a1)] h (q_X3_thrownTo h a0 a1) := (g_X3_thrownTo h hI a0 a1).mono (fun r h' p => p)

abbrev q_X9_layFits (h : PH) (a0 : Int32) : Option PV → PH → Prop := fun r h' => INV h' ∧ FR [96, 103, 104, 105, 106, 107, 108, 109, 110, 111, 112, 113, 114, 115, 116, 117, 118, 119, 124, 125] h h' ∧ (True) ∧ ∃ z : Int32, r = some (.inl z) ∧ (((-6) ≤ z.toInt ∧ z.toInt ≤ 0))
theorem k_X9_layFits (h : PH) (hI : INV h) (a0 : Int32) : CALL d_X9_layFits [.inr (.inr (.inl 96)), .inl a0] h (q_X9_layFits h a0) := by
  refine (g_X9_layFits h hI a0).mono (fun r h' p => ?_)
  obtain ⟨a, b, c, d⟩ := p
  exact ⟨a, (FR.rf _ h).trans b (by decide), trivial, d⟩

abbrev q_X8_share (h : PH) (a0 : Int32) (a1 : Int32) : Option PV → PH → Prop := fun r h' => INV h' ∧ FR [70, 71, 72, 73, 74] h h' ∧ (True) ∧ ∃ z : Int32, r = some (.inl z) ∧ ((True))
theorem k_X8_share (h : PH) (hI : INV h) (a0 : Int32) (a1 : Int32) : CALL d_X8_share [.inr (.inr (.inl 0)), .inl a0, .inl a1] h (q_X8_share h a0 a1) := by
  refine (g_X8_share h hI a0 a1).mono (fun r h' p => ?_)
  obtain ⟨a, b, c, d⟩ := p
  exact ⟨a, (FR.rf _ h).trans b (by decide), trivial, d⟩

abbrev q_X9_share (h : PH) (a0 : Int32) (a1 : Int32) : Option PV → PH → Prop := fun r h' => INV h' ∧ FR [96, 103, 104, 105, 106, 107, 108, 109, 110, 111, 112, 113, 114, 115, 116, 117, 118, 119, 126] h h' ∧ (True) ∧ ∃ z : Int32, r = some (.inl z) ∧ ((True))
theorem k_X9_share (h : PH) (hI : INV h) (a0 : Int32) (a1 : Int32) : CALL d_X9_share [.inr (.inr (.inl 96)), .inl a0, .inl a1] h (q_X9_share h a0 a1) := by
  refine (g_X9_share h hI a0 a1).mono (fun r h' p => ?_)
  obtain ⟨a, b, c, d⟩ := p
  exact ⟨a, (FR.rf _ h).trans b (by decide), trivial, d⟩

abbrev q_X9_laySlips (h : PH) (a0 : Int32) (a1 : Int32) : Option PV → PH → Prop := fun r h' => INV h' ∧ FR [96, 103, 104, 105, 106, 107, 108, 109, 110, 111, 112, 113, 114, 115, 116, 117, 118, 119] h h' ∧ ((¬ (h'.2 96 54).toInt = 0) ∧ True) ∧ r = none
theorem k_X9_laySlips (h : PH) (hI : INV h) (a0 : Int32) (a1 : Int32) (h0a : 0 ≤ a0.toInt ∧ a0.toInt ≤ 7) (h1a : 0 ≤ a1.toInt ∧ a1.toInt ≤ 9) : CALL d_X9_laySlips [.inr (.inr (.inl 96)), .inl a0, .inl a1] h (q_X9_laySlips h a0 a1) := by
  refine (g_X9_laySlips h hI a0 a1 h0a h1a).mono (fun r h' p => ?_)
  obtain ⟨a, b, c, e⟩ := p
  exact ⟨a, (FR.rf _ h).trans b (by decide), ⟨by omega, trivial⟩, e⟩

abbrev q_X9_image (h : PH) (a0 : Int32) : Option PV → PH → Prop := fun r h' => INV h' ∧ FR [98, 99] h h' ∧ (True) ∧ ∃ z : Int32, r = some (.inl z) ∧ ((True))
set_option maxHeartbeats 4000000 in
set_option maxRecDepth 100000 in
theorem k_X9_image (h : PH) (hI : INV h) (a0 : Int32) : CALL d_X9_image [.inr (.inr (.inl 96)), .inl a0] h (q_X9_image h a0) := by
  show RUN d_X9_image 0 [(0, .inr (.inr (.inl 96))), (1, .inl a0)] [] h _
  have fr : FR [98, 99] h h := FR.rf _ _
  have b1 := i_rng a0
  refine R_iload_n (k := 1) rfl rfl rfl ?_
  refine N_i2l rfl (fun w1 q2 => ?_)
  refine R_lconst 0 rfl rfl ?_
  refine R_ldc2 (x := 2) rfl kt_9_123 ?_
  have k3 : (0 : Int64).toInt = 0 := by decide
  have k4 : (2 : Int64).toInt = 2 := by decide
  refine R_callS (As := [.inr (.inl w1), .inr (.inl 0), .inr (.inl 2)]) (rest := []) rfl mt_9_i125 (by decide) pp_X9_in (by decide) rfl rfl (Nat.le_of_ble_eq_true rfl) (Nat.le_of_ble_eq_true rfl) ((k_X9_in h hI w1 (0 : Int64) (2 : Int64)).mono (fun r5 h6 p7 => ?_))
  have hx : ∃ x8 : Int32, h = h6 ∧ r5 = some (.inl x8) ∧ (x8.toInt = 0 ∨ (x8.toInt = 1 ∧ 0 ≤ a0.toInt ∧ a0.toInt ≤ 2)) := by
    obtain ⟨e, x8, e2, q9⟩ := p7
    exact ⟨x8, e, e2, by omega⟩
  obtain ⟨x8, rfl, rfl, q9⟩ := hx
  show RUN d_X9_image 9 [(0, .inr (.inr (.inl 96))), (1, .inl a0)] [.inl x8] h _
  refine N_if_ne (a := x8.toInt) 15 rfl rfl rfl (fun c10 => ?_) (fun c10 => ?_)
  · have ha : 0 ≤ a0.toInt ∧ a0.toInt ≤ 2 := by omega
    have ea := pcl (x := a0) ha.1
    refine R_iconst 0 rfl rfl ?_
    refine R_istore_n (k := 2) rfl [(2, .inl 0), (0, .inr (.inr (.inl 96))), (1, .inl a0)] rfl rfl (by decide) ?_
    have lp : ∀ (n : Nat) (x : Int32), 0 ≤ x.toInt ∧ x.toInt ≤ 68 → (68 - x.toInt).toNat < n → RUN d_X9_image 17 [(2, .inl x), (0, .inr (.inr (.inl 96))), (1, .inl a0)] [] (mixI h 98 97 (68 * a0.toNatClampNeg) 0 x.toNatClampNeg) (q_X9_image h a0) := by
      intro n
      induction n with
      | zero => intro x m1 hz; exact absurd hz (Nat.not_lt_zero _)
      | succ n ih =>
        intro x m1 hz
        have ex := pcl (x := x) m1.1
        refine R_iload_n (k := 2) rfl rfl rfl ?_
        refine R_bipush 68 rfl rfl ?_
        refine N_icmp_ge (a := x.toInt) (b := 68) 46 rfl rfl rfl (by decide) (fun c => ?_) (fun c => ?_)
        · have e68 : x.toNatClampNeg = 68 := by omega
          rw [e68]
          have hI2 := INV_image hI (k := a0.toNatClampNeg) (by omega)
          have fr2 : FR [98, 99] h (mixI h 98 97 (68 * a0.toNatClampNeg) 0 68) := FR_mix (by decide)
          refine R_aload_n (k := 0) rfl rfl rfl ?_
          refine R_getf_r (j := 3) rfl ft_9_16 sh_96 rfl ?_
          refine R_iload_n (k := 1) rfl rfl rfl ?_
          refine R_iconst 1 rfl rfl ?_
          refine K_zast (a := a0.toInt) rfl sh_99 rfl ⟨by omega, by omega⟩ hI2 (by decide) rfl fr2 (by decide) (fun h26 g27 hI3 fr3 => ?_)
          refine R_iconst 0 rfl rfl ?_
          exact R_iret rfl rfl rfl ⟨hI3, fr3, trivial, _, rfl, trivial⟩
        · refine R_aload_n (k := 0) rfl rfl rfl ?_
          refine R_getf_r (j := 2) rfl ft_9_13 sh_96 rfl ?_
          refine R_bipush 68 rfl rfl ?_
          refine R_iload_n (k := 1) rfl rfl rfl ?_
          refine N_imul (a := 68) (b := a0.toInt) rfl (by decide) rfl (by omega) (fun x2 q3 => ?_)
          refine R_iload_n (k := 2) rfl rfl rfl ?_
          refine N_iadd (a := x2.toInt) (b := x.toInt) rfl rfl rfl (by omega) (fun x4 q5 => ?_)
          refine R_aload_n (k := 0) rfl rfl rfl ?_
          refine R_getf_r (j := 1) rfl ft_9_9 sh_96 rfl ?_
          refine R_iload_n (k := 2) rfl rfl rfl ?_
          refine R_iald rfl sh_97 ⟨by omega, by omega⟩ ?_
          refine R_iast rfl sh_98 ⟨by omega, by omega⟩ ?_
          have e4 : x4.toNatClampNeg = 68 * a0.toNatClampNeg + x.toNatClampNeg := by
            have := pcl (x := x4) (by omega)
            omega
          rw [e4, mixI_ne (r := 97) (by decide), show x.toNatClampNeg = x.toNatClampNeg + 0 from rfl, mixI_s]
          refine N_iinc (a := x.toInt) (c := 1) (fun w => [(2, .inl w), (0, .inr (.inr (.inl 96))), (1, .inl a0)]) rfl rfl (fun _ => rfl) (by decide) rfl (by decide) (by omega) (fun x6 q7 => ?_)
          refine R_goto 17 rfl rfl ?_
          have e6 : x.toNatClampNeg + 0 + 1 = x6.toNatClampNeg := by
            have := pcl (x := x6) (by omega)
            omega
          have hh := ih x6 (by omega) (by omega)
          rw [← e6] at hh
          exact hh
    have h0 := lp _ 0 (by decide) (Nat.lt_succ_self _)
    rw [show (0 : Int32).toNatClampNeg = 0 from rfl, mixI_0] at h0
    exact h0
  · refine R_bipush (-2) rfl rfl ?_
    exact R_iret rfl rfl rfl ⟨hI, fr, trivial, _, rfl, trivial⟩

abbrev q_X9_back (h : PH) (a0 : Int32) : Option PV → PH → Prop := fun r h' => INV h' ∧ FR [97] h h' ∧ (True) ∧ ∃ z : Int32, r = some (.inl z) ∧ ((True))
set_option maxHeartbeats 4000000 in
set_option maxRecDepth 100000 in
theorem k_X9_back (h : PH) (hI : INV h) (a0 : Int32) : CALL d_X9_back [.inr (.inr (.inl 96)), .inl a0] h (q_X9_back h a0) := by
  show RUN d_X9_back 0 [(0, .inr (.inr (.inl 96))), (1, .inl a0)] [] h _
  have fr : FR [97] h h := FR.rf _ _
  have b1 := i_rng a0
  refine R_iload_n (k := 1) rfl rfl rfl ?_
  refine N_i2l rfl (fun w1 q2 => ?_)
  refine R_lconst 0 rfl rfl ?_
  refine R_ldc2 (x := 2) rfl kt_9_123 ?_
  have k3 : (0 : Int64).toInt = 0 := by decide
  have k4 : (2 : Int64).toInt = 2 := by decide
  refine R_callS (As := [.inr (.inl w1), .inr (.inl 0), .inr (.inl 2)]) (rest := []) rfl mt_9_i125 (by decide) pp_X9_in (by decide) rfl rfl (Nat.le_of_ble_eq_true rfl) (Nat.le_of_ble_eq_true rfl) ((k_X9_in h hI w1 (0 : Int64) (2 : Int64)).mono (fun r5 h6 p7 => ?_))
  have hx : ∃ x8 : Int32, h = h6 ∧ r5 = some (.inl x8) ∧ (x8.toInt = 0 ∨ (x8.toInt = 1 ∧ 0 ≤ a0.toInt ∧ a0.toInt ≤ 2)) := by
    obtain ⟨e, x8, e2, q9⟩ := p7
    exact ⟨x8, e, e2, by omega⟩
  obtain ⟨x8, rfl, rfl, q9⟩ := hx
  show RUN d_X9_back 9 [(0, .inr (.inr (.inl 96))), (1, .inl a0)] [.inl x8] h _
  refine N_if_ne (a := x8.toInt) 15 rfl rfl rfl (fun c10 => ?_) (fun c10 => ?_)
  · have ha : 0 ≤ a0.toInt ∧ a0.toInt ≤ 2 := by omega
    have ea := pcl (x := a0) ha.1
    refine R_aload_n (k := 0) rfl rfl rfl ?_
    refine R_getf_r (j := 3) rfl ft_9_16 sh_96 rfl ?_
    refine R_iload_n (k := 1) rfl rfl rfl ?_
    refine R_zald rfl sh_99 ⟨by omega, by omega⟩ ?_
    refine N_any (fun x13 => ?_)
    refine N_if_ne (a := x13.toInt) 27 rfl rfl rfl (fun c14 => ?_) (fun c14 => ?_)
    · refine R_iconst 0 rfl rfl ?_
      refine R_istore_n (k := 2) rfl [(2, .inl 0), (0, .inr (.inr (.inl 96))), (1, .inl a0)] rfl rfl (by decide) ?_
      have lp : ∀ (n : Nat) (x : Int32), 0 ≤ x.toInt ∧ x.toInt ≤ 68 → (68 - x.toInt).toNat < n → RUN d_X9_back 29 [(2, .inl x), (0, .inr (.inr (.inl 96))), (1, .inl a0)] [] (mixI h 97 98 0 (68 * a0.toNatClampNeg) x.toNatClampNeg) (q_X9_back h a0) := by
        intro n
        induction n with
        | zero => intro x m1 hz; exact absurd hz (Nat.not_lt_zero _)
        | succ n ih =>
          intro x m1 hz
          have ex := pcl (x := x) m1.1
          refine R_iload_n (k := 2) rfl rfl rfl ?_
          refine R_bipush 68 rfl rfl ?_
          refine N_icmp_ge (a := x.toInt) (b := 68) 58 rfl rfl rfl (by decide) (fun c => ?_) (fun c => ?_)
          · have e68 : x.toNatClampNeg = 68 := by omega
            rw [e68]
            have hI2 := INV_back hI (k := a0.toNatClampNeg) (by omega)
            have fr2 : FR [97] h (mixI h 97 98 0 (68 * a0.toNatClampNeg) 68) := FR_mix (by decide)
            refine R_iconst 0 rfl rfl ?_
            exact R_iret rfl rfl rfl ⟨hI2, fr2, trivial, _, rfl, trivial⟩
          · refine R_aload_n (k := 0) rfl rfl rfl ?_
            refine R_getf_r (j := 1) rfl ft_9_9 sh_96 rfl ?_
            refine R_iload_n (k := 2) rfl rfl rfl ?_
            refine R_aload_n (k := 0) rfl rfl rfl ?_
            refine R_getf_r (j := 2) rfl ft_9_13 sh_96 rfl ?_
            refine R_bipush 68 rfl rfl ?_
            refine R_iload_n (k := 1) rfl rfl rfl ?_
            refine N_imul (a := 68) (b := a0.toInt) rfl (by decide) rfl (by omega) (fun x2 q3 => ?_)
            refine R_iload_n (k := 2) rfl rfl rfl ?_
            refine N_iadd (a := x2.toInt) (b := x.toInt) rfl rfl rfl (by omega) (fun x4 q5 => ?_)
            refine R_iald rfl sh_98 ⟨by omega, by omega⟩ ?_
            refine R_iast rfl sh_97 ⟨by omega, by omega⟩ ?_
            have e4 : x4.toNatClampNeg = x.toNatClampNeg + 68 * a0.toNatClampNeg := by
              have := pcl (x := x4) (by omega)
              omega
            have e5 := mixI_s (h := h) (k := 97) (q := 98) (o := 0) (p := 68 * a0.toNatClampNeg) (i := x.toNatClampNeg)
            rw [Nat.zero_add] at e5
            rw [e4, mixI_ne (r := 98) (by decide), e5]
            refine N_iinc (a := x.toInt) (c := 1) (fun w => [(2, .inl w), (0, .inr (.inr (.inl 96))), (1, .inl a0)]) rfl rfl (fun _ => rfl) (by decide) rfl (by decide) (by omega) (fun x6 q7 => ?_)
            refine R_goto 29 rfl rfl ?_
            have e6 : x.toNatClampNeg + 1 = x6.toNatClampNeg := by
              have := pcl (x := x6) (by omega)
              omega
            have hh := ih x6 (by omega) (by omega)
            rw [← e6] at hh
            exact hh
      have h0 := lp _ 0 (by decide) (Nat.lt_succ_self _)
      rw [show (0 : Int32).toNatClampNeg = 0 from rfl, mixI_0] at h0
      exact h0
    · refine R_bipush (-6) rfl rfl ?_
      exact R_iret rfl rfl rfl ⟨hI, fr, trivial, _, rfl, trivial⟩
  · refine R_bipush (-2) rfl rfl ?_
    exact R_iret rfl rfl rfl ⟨hI, fr, trivial, _, rfl, trivial⟩
