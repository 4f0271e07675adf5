abbrev qg_X9_image (h : PH) (a0 : Int32) : Option PV → PH → Prop := fun r h' => INV h' ∧ FR [98, 99] h h' ∧ ((h'.1 99 = imgR (h.1 99) a0) ∧ True) ∧ ∃ z : Int32, r = some (.inl z) ∧ ((True) ∧ (z = s_image a0.toInt) ∧ True)
set_option maxHeartbeats 4000000 in
set_option maxRecDepth 100000 in
theorem g_X9_image (h : PH) (hI : INV h) (a0 : Int32) : CALL d_X9_image [.inr (.inr (.inl 96)), .inl a0] h (qg_X9_image h a0) := by
  show RUN d_X9_image 0 [(0, .inr (.inr (.inl 96))), (1, .inl a0)] [] h _
  have fr : FR [98, 99] h h := FR.rf _ _
  have b1 := i_rng a0
  refine R_iload_n (k := 1) rfl rfl rfl ?_
  refine N_i2l rfl (fun w1 q2 => ?_)
  refine R_lconst 0 rfl rfl ?_
  refine R_ldc2 (x := 2) rfl kt_9_123 ?_
  have k3 : (0 : Int64).toInt = 0 := by decide
  have k4 : (2 : Int64).toInt = 2 := by decide
  refine R_callS (As := [.inr (.inl w1), .inr (.inl 0), .inr (.inl 2)]) (rest := []) rfl mt_9_i125 (by decide) pp_X9_in (by decide) rfl rfl (Nat.le_of_ble_eq_true rfl) (Nat.le_of_ble_eq_true rfl) ((k_X9_in h hI w1 (0 : Int64) (2 : Int64)).mono (fun r5 h6 p7 => ?_))
  have hx : ∃ x8 : Int32, h = h6 ∧ r5 = some (.inl x8) ∧ ((x8.toInt = 0 ∧ ¬ (0 ≤ a0.toInt ∧ a0.toInt ≤ 2)) ∨ (x8.toInt = 1 ∧ 0 ≤ a0.toInt ∧ a0.toInt ≤ 2)) := by
    obtain ⟨e, x8, e2, q9⟩ := p7
    exact ⟨x8, e, e2, by omega⟩
  obtain ⟨x8, rfl, rfl, q9⟩ := hx
  show RUN d_X9_image 9 [(0, .inr (.inr (.inl 96))), (1, .inl a0)] [.inl x8] h _
  refine N_if_ne (a := x8.toInt) 15 rfl rfl rfl (fun c10 => ?_) (fun c10 => ?_)
  · have ha : 0 ≤ a0.toInt ∧ a0.toInt ≤ 2 := by omega
    have ea := pcl (x := a0) ha.1
    refine R_iconst 0 rfl rfl ?_
    refine R_istore_n (k := 2) rfl [(2, .inl 0), (0, .inr (.inr (.inl 96))), (1, .inl a0)] rfl rfl (by decide) ?_
    have lp : ∀ (n : Nat) (x : Int32), 0 ≤ x.toInt ∧ x.toInt ≤ 68 → (68 - x.toInt).toNat < n → RUN d_X9_image 17 [(2, .inl x), (0, .inr (.inr (.inl 96))), (1, .inl a0)] [] (mixI h 98 97 (68 * a0.toNatClampNeg) 0 x.toNatClampNeg) (qg_X9_image h a0) := by
      intro n
      induction n with
      | zero => intro x m1 hz; exact absurd hz (Nat.not_lt_zero _)
      | succ n ih =>
        intro x m1 hz
        have ex := pcl (x := x) m1.1
        refine R_iload_n (k := 2) rfl rfl rfl ?_
        refine R_bipush 68 rfl rfl ?_
        refine N_icmp_ge (a := x.toInt) (b := 68) 46 rfl rfl rfl (by decide) (fun c => ?_) (fun c => ?_)
        · have e68 : x.toNatClampNeg = 68 := by omega
          rw [e68]
          have hI2 := INV_image hI (k := a0.toNatClampNeg) (by omega)
          have fr2 : FR [98, 99] h (mixI h 98 97 (68 * a0.toNatClampNeg) 0 68) := FR_mix (by decide)
          refine R_aload_n (k := 0) rfl rfl rfl ?_
          refine R_getf_r (j := 3) rfl ft_9_16 sh_96 rfl ?_
          refine R_iload_n (k := 1) rfl rfl rfl ?_
          refine R_iconst 1 rfl rfl ?_
          refine K_zast (a := a0.toInt) rfl sh_99 rfl ⟨by omega, by omega⟩ hI2 (by decide) rfl fr2 (by decide) (fun h26 g27 hI3 fr3 => ?_)
          refine R_iconst 0 rfl rfl ?_
          exact R_iret rfl rfl rfl ⟨hI3, fr3, ⟨img_row ha (by rw [g27, wI_self, mixI_ne (by decide)]), trivial⟩, _, rfl, trivial, (by unfold s_image; rw [if_pos ha]), trivial⟩
        · refine R_aload_n (k := 0) rfl rfl rfl ?_
          refine R_getf_r (j := 2) rfl ft_9_13 sh_96 rfl ?_
          refine R_bipush 68 rfl rfl ?_
          refine R_iload_n (k := 1) rfl rfl rfl ?_
          refine N_imul (a := 68) (b := a0.toInt) rfl (by decide) rfl (by omega) (fun x2 q3 => ?_)
          refine R_iload_n (k := 2) rfl rfl rfl ?_
          refine N_iadd (a := x2.toInt) (b := x.toInt) rfl rfl rfl (by omega) (fun x4 q5 => ?_)
          refine R_aload_n (k := 0) rfl rfl rfl ?_
          refine R_getf_r (j := 1) rfl ft_9_9 sh_96 rfl ?_
          refine R_iload_n (k := 2) rfl rfl rfl ?_
          refine R_iald rfl sh_97 ⟨by omega, by omega⟩ ?_
          refine R_iast rfl sh_98 ⟨by omega, by omega⟩ ?_
          have e4 : x4.toNatClampNeg = 68 * a0.toNatClampNeg + x.toNatClampNeg := by
            have := pcl (x := x4) (by omega)
            omega
          rw [e4, mixI_ne (r := 97) (by decide), show x.toNatClampNeg = x.toNatClampNeg + 0 from rfl, mixI_s]
          refine N_iinc (a := x.toInt) (c := 1) (fun w => [(2, .inl w), (0, .inr (.inr (.inl 96))), (1, .inl a0)]) rfl rfl (fun _ => rfl) (by decide) rfl (by decide) (by omega) (fun x6 q7 => ?_)
          refine R_goto 17 rfl rfl ?_
          have e6 : x.toNatClampNeg + 0 + 1 = x6.toNatClampNeg := by
            have := pcl (x := x6) (by omega)
            omega
          have hh := ih x6 (by omega) (by omega)
          rw [← e6] at hh
          exact hh
    have h0 := lp _ 0 (by decide) (Nat.lt_succ_self _)
    rw [show (0 : Int32).toNatClampNeg = 0 from rfl, mixI_0] at h0
    exact h0
  · refine R_bipush (-2) rfl rfl ?_
    exact R_iret rfl rfl rfl ⟨hI, fr, ⟨(by unfold imgR; rw [if_neg (by omega)]), trivial⟩, _, rfl, trivial, (by unfold s_image; rw [if_neg (by omega)]), trivial⟩
