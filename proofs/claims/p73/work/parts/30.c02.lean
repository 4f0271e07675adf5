abbrev q_X2_busyBits (h : PH)  : Option PV → PH → Prop := fun r h' => h = h' ∧ ∃ z : Int32, r = some (.inl z) ∧ ((True))
set_option maxHeartbeats 4000000 in
set_option maxRecDepth 100000 in
theorem k_X2_busyBits (h : PH) (hI : INV h)  : CALL d_X2_busyBits [.inr (.inr (.inl 70))] h (q_X2_busyBits h) := by
  show RUN d_X2_busyBits 0 [(0, .inr (.inr (.inl 70)))] [] h _
  refine R_iconst 0 rfl rfl ?_
  refine R_istore_n (k := 1) rfl [(1, .inl 0), (0, .inr (.inr (.inl 70)))] rfl rfl (by decide) ?_
  refine R_iconst 0 rfl rfl ?_
  refine R_istore_n (k := 2) rfl [(2, .inl 0), (1, .inl 0), (0, .inr (.inr (.inl 70)))] rfl rfl (by decide) ?_
  have lp2 : ∀ (n1 : Nat) (x3 : Int32) (x4 : Int32), 0 ≤ x4.toInt ∧ x4.toInt ≤ 6 → (6 - x4.toInt).toNat < n1 → RUN d_X2_busyBits 4 [(2, .inl x4), (1, .inl x3), (0, .inr (.inr (.inl 70)))] [] h (q_X2_busyBits h) := by
    intro n1
    induction n1 with
    | zero => intro x3 x4 m6 hz; exact absurd hz (Nat.not_lt_zero _)
    | succ n1 ih5 =>
      intro x3 x4 m6 hz
      refine R_iload_n (k := 2) rfl rfl rfl ?_
      refine R_aload_n (k := 0) rfl rfl rfl ?_
      refine R_getf_i (j := 4) rfl ft_2_25 sh_70 rfl ?_
      have b7 : (0 : Int) ≤ (h.1 70 4).toInt ∧ (h.1 70 4).toInt ≤ 6 := hI.1 70 4
      refine N_icmp_ge (a := x4.toInt) (b := (h.1 70 4).toInt) 33 rfl rfl rfl rfl (fun c8 => ?_) (fun c8 => ?_)
      · refine R_iload_n (k := 1) rfl rfl rfl ?_
        exact R_iret rfl rfl rfl ⟨rfl, _, rfl, trivial⟩
      · refine R_aload_n (k := 0) rfl rfl rfl ?_
        refine R_getf_r (j := 3) rfl ft_2_22 sh_70 rfl ?_
        refine R_iload_n (k := 2) rfl rfl rfl ?_
        refine R_iald rfl sh_74 ⟨by omega, by omega⟩ ?_
        refine N_any (fun x9 => ?_)
        refine N_if_le (a := x9.toInt) 27 rfl rfl rfl (fun c10 => ?_) (fun c10 => ?_)
        · refine N_iinc (a := x4.toInt) (c := 1) (fun w => [(2, .inl w), (1, .inl x3), (0, .inr (.inr (.inl 70)))]) rfl rfl (fun _ => rfl) (by decide) rfl (by decide) (by omega) (fun x11 q12 => ?_)
          refine R_goto 4 rfl rfl ?_
          exact RUN_weak (psub_cons rfl (psub_cons rfl (psub_cons rfl (psub_nil _)))) (ih5 x3 x11 (by omega) (by omega))
        · refine R_iload_n (k := 1) rfl rfl rfl ?_
          refine R_iconst 1 rfl rfl ?_
          refine R_iload_n (k := 2) rfl rfl rfl ?_
          refine N_ishl1 (b := x4.toInt) rfl rfl (by omega) (fun x13 q14 => ?_)
          refine R_ior rfl ?_
          refine N_any (fun x15 => ?_)
          refine R_istore_n (k := 1) rfl [(1, .inl x15), (2, .inl x4), (0, .inr (.inr (.inl 70)))] rfl rfl (by decide) ?_
          refine N_iinc (a := x4.toInt) (c := 1) (fun w => [(2, .inl w), (1, .inl x15), (0, .inr (.inr (.inl 70)))]) rfl rfl (fun _ => rfl) (by decide) rfl (by decide) (by omega) (fun x16 q17 => ?_)
          refine R_goto 4 rfl rfl ?_
          exact RUN_weak (psub_cons rfl (psub_cons rfl (psub_cons rfl (psub_nil _)))) (ih5 x15 x16 (by omega) (by omega))
  exact lp2 _ (0 : Int32) (0 : Int32) (by decide) (Nat.lt_succ_self _)
abbrev q_J6_bitCount_0f7a4 (h : PH) (a0 : Int32) : Option PV → PH → Prop := fun r h' => h = h' ∧ ∃ z : Int32, r = some (.inl z) ∧ ((0 ≤ z.toInt ∧ z.toInt ≤ 63))
set_option maxHeartbeats 4000000 in
set_option maxRecDepth 100000 in
theorem k_J6_bitCount_0f7a4 (h : PH) (hI : INV h) (a0 : Int32) : CALL d_J6_bitCount_0f7a4 [.inl a0] h (q_J6_bitCount_0f7a4 h a0) := by
  show RUN d_J6_bitCount_0f7a4 0 [(0, .inl a0)] [] h _
  have b1 := i_rng a0
  refine R_iload_n (k := 0) rfl rfl rfl ?_
  refine R_iload_n (k := 0) rfl rfl rfl ?_
  refine R_iconst 1 rfl rfl ?_
  refine R_iushr rfl ?_
  refine N_any (fun x2 => ?_)
  refine R_ldcw_i (x := 1431655765) rfl kt_10_265 ?_
  refine N_iand (b := 1431655765) rfl (by decide) (by omega) (fun x3 q4 => ?_)
  have b5 := i_rng a0
  refine R_isub rfl ?_
  refine N_any (fun x6 => ?_)
  refine R_istore_n (k := 0) rfl [(0, .inl x6)] rfl rfl (by decide) ?_
  refine R_iload_n (k := 0) rfl rfl rfl ?_
  refine R_ldcw_i (x := 858993459) rfl kt_10_266 ?_
  refine N_iand (b := 858993459) rfl (by decide) (by omega) (fun x7 q8 => ?_)
  refine R_iload_n (k := 0) rfl rfl rfl ?_
  refine R_iconst 2 rfl rfl ?_
  refine R_iushr rfl ?_
  refine N_any (fun x9 => ?_)
  refine R_ldcw_i (x := 858993459) rfl kt_10_266 ?_
  refine N_iand (b := 858993459) rfl (by decide) (by omega) (fun x10 q11 => ?_)
  refine N_iadd (a := x7.toInt) (b := x10.toInt) rfl rfl rfl (by omega) (fun x12 q13 => ?_)
  refine R_istore_n (k := 0) rfl [(0, .inl x12)] rfl rfl (by decide) ?_
  refine R_iload_n (k := 0) rfl rfl rfl ?_
  refine R_iload_n (k := 0) rfl rfl rfl ?_
  refine R_iconst 4 rfl rfl ?_
  refine R_iushr rfl ?_
  refine N_any (fun x14 => ?_)
  have b15 := i_rng x14
  refine R_iadd rfl ?_
  refine N_any (fun x16 => ?_)
  refine R_ldcw_i (x := 252645135) rfl kt_10_267 ?_
  refine N_iand (b := 252645135) rfl (by decide) (by omega) (fun x17 q18 => ?_)
  refine R_istore_n (k := 0) rfl [(0, .inl x17)] rfl rfl (by decide) ?_
  refine R_iload_n (k := 0) rfl rfl rfl ?_
  refine R_iload_n (k := 0) rfl rfl rfl ?_
  refine R_bipush 8 rfl rfl ?_
  refine R_iushr rfl ?_
  refine N_any (fun x19 => ?_)
  have b20 := i_rng x19
  refine R_iadd rfl ?_
  refine N_any (fun x21 => ?_)
  refine R_istore_n (k := 0) rfl [(0, .inl x21)] rfl rfl (by decide) ?_
  refine R_iload_n (k := 0) rfl rfl rfl ?_
  refine R_iload_n (k := 0) rfl rfl rfl ?_
  refine R_bipush 16 rfl rfl ?_
  refine R_iushr rfl ?_
  refine N_any (fun x22 => ?_)
  have b23 := i_rng x21
  have b24 := i_rng x22
  refine R_iadd rfl ?_
  refine N_any (fun x25 => ?_)
  refine R_istore_n (k := 0) rfl [(0, .inl x25)] rfl rfl (by decide) ?_
  refine R_iload_n (k := 0) rfl rfl rfl ?_
  refine R_bipush 63 rfl rfl ?_
  refine N_iand (b := 63) rfl (by decide) (by omega) (fun x26 q27 => ?_)
  exact R_iret rfl rfl rfl ⟨rfl, _, rfl, by omega⟩
abbrev q_X6_noteLine (h : PH) (a1 : Int32) : Option PV → PH → Prop := fun r h' => INV h' ∧ FR [76, 77, 79, 81, 82] h h' ∧ (True) ∧ r = none
set_option maxHeartbeats 4000000 in
set_option maxRecDepth 100000 in
theorem k_X6_noteLine (h : PH) (hI : INV h) (a1 : Int32) (h1a : 0 ≤ a1.toInt ∧ a1.toInt ≤ 59) : CALL d_X6_noteLine [.inr (.inr (.inl 75)), .inr (.inr (.inl 70)), .inl a1] h (q_X6_noteLine h a1) := by
  show RUN d_X6_noteLine 0 [(0, .inr (.inr (.inl 75))), (1, .inr (.inr (.inl 70))), (2, .inl a1)] [] h _
  have fr : FR [76, 77, 79, 81, 82] h h := FR.rf _ _
  refine R_iconst 0 rfl rfl ?_
  refine R_istore_n (k := 3) rfl [(3, .inl 0), (0, .inr (.inr (.inl 75))), (1, .inr (.inr (.inl 70))), (2, .inl a1)] rfl rfl (by decide) ?_
  have lp2 : ∀ (n1 : Nat) (h3 : PH) (x5 : Int32), INV h3 → FR [76, 77, 79, 81, 82] h h3 → FR [76, 77, 79, 81, 82] h h3 → 0 ≤ x5.toInt ∧ x5.toInt ≤ 6 → (6 - x5.toInt).toNat < n1 → RUN d_X6_noteLine 2 [(3, .inl x5), (0, .inr (.inr (.inl 75))), (1, .inr (.inr (.inl 70))), (2, .inl a1)] [] h3 (q_X6_noteLine h a1) := by
    intro n1
    induction n1 with
    | zero => intro h3 x5 m7 m8 m9 m10 hz; exact absurd hz (Nat.not_lt_zero _)
    | succ n1 ih6 =>
      intro h3 x5 hI fr fl4 m10 hz
      refine R_iload_n (k := 3) rfl rfl rfl ?_
      refine R_bipush 6 rfl rfl ?_
      refine N_icmp_ge (a := x5.toInt) (b := 6) 31 rfl rfl rfl (by decide) (fun c11 => ?_) (fun c11 => ?_)
      · refine R_aload_n (k := 0) rfl rfl rfl ?_
        refine R_getf_r (j := 1) rfl ft_6_15 sh_75 rfl ?_
        refine R_iload_n (k := 2) rfl rfl rfl ?_
        refine R_aload_n (k := 1) rfl rfl rfl ?_
        refine R_callV (v := .inr (.inr (.inl 70))) (As := []) (rest := [.inl a1, .inr (.inr (.inl 77))]) rfl mt_6_i86 pp_X2_busyBits (by decide) rfl rfl rfl (Nat.le_of_ble_eq_true rfl) (Nat.le_of_ble_eq_true rfl) ((k_X2_busyBits h3 hI).mono (fun r12 h13 p14 => ?_))
        obtain ⟨rfl, x15, rfl, q16⟩ := p14
        show RUN d_X6_noteLine 40 [(3, .inl x5), (0, .inr (.inr (.inl 75))), (1, .inr (.inr (.inl 70))), (2, .inl a1)] [.inl x15, .inl a1, .inr (.inr (.inl 77))] h3 _
        refine K_iast (a := a1.toInt) (lo := (-2147483648)) (hi' := 2147483647) rfl sh_77 rfl ⟨by omega, by omega⟩ hI (by decide) rfl (i_rng _) fr (by decide) (fun h17 g18 hI fr => ?_)
        have fl4 : FR [76, 77, 79, 81, 82] h h17 := by rw [g18]; exact FR_wI _ _ fl4 (by decide)
        refine R_aload_n (k := 0) rfl rfl rfl ?_
        refine R_getf_r (j := 3) rfl ft_6_21 sh_75 rfl ?_
        refine R_iload_n (k := 2) rfl rfl rfl ?_
        refine R_aload_n (k := 1) rfl rfl rfl ?_
        refine R_callV (v := .inr (.inr (.inl 70))) (As := []) (rest := [.inl a1, .inr (.inr (.inl 79))]) rfl mt_6_i70 pp_X2_readyBits (by decide) rfl rfl rfl (Nat.le_of_ble_eq_true rfl) (Nat.le_of_ble_eq_true rfl) ((k_X2_readyBits h17 hI).mono (fun r19 h20 p21 => ?_))
        obtain ⟨rfl, x22, rfl, q23⟩ := p21
        show RUN d_X6_noteLine 50 [(3, .inl x5), (0, .inr (.inr (.inl 75))), (1, .inr (.inr (.inl 70))), (2, .inl a1)] [.inl x22, .inl a1, .inr (.inr (.inl 79))] h17 _
        refine K_iast (a := a1.toInt) (lo := (-2147483648)) (hi' := 2147483647) rfl sh_79 rfl ⟨by omega, by omega⟩ hI (by decide) rfl (i_rng _) fr (by decide) (fun h24 g25 hI fr => ?_)
        have fl4 : FR [76, 77, 79, 81, 82] h h24 := by rw [g25]; exact FR_wI _ _ fl4 (by decide)
        refine R_aload_n (k := 0) rfl rfl rfl ?_
        refine R_getf_r (j := 5) rfl ft_6_27 sh_75 rfl ?_
        refine R_iload_n (k := 2) rfl rfl rfl ?_
        refine R_aload_n (k := 1) rfl rfl rfl ?_
        refine R_getf_i (j := 8) rfl ft_6_89 sh_70 rfl ?_
        refine K_iast (a := a1.toInt) (lo := (-2147483648)) (hi' := 2147483647) rfl sh_81 rfl ⟨by omega, by omega⟩ hI (by decide) rfl (i_rng _) fr (by decide) (fun h26 g27 hI fr => ?_)
        have fl4 : FR [76, 77, 79, 81, 82] h h26 := by rw [g27]; exact FR_wI _ _ fl4 (by decide)
        have s28 : (h26.1 70 8).toInt = (h24.1 70 8).toInt := by rw [g27, wI_ne _ _ _ (by decide)]
        refine R_aload_n (k := 0) rfl rfl rfl ?_
        refine R_getf_r (j := 6) rfl ft_6_30 sh_75 rfl ?_
        refine R_iload_n (k := 2) rfl rfl rfl ?_
        refine R_aload_n (k := 1) rfl rfl rfl ?_
        refine R_getf_i (j := 9) rfl ft_6_92 sh_70 rfl ?_
        refine R_callS (As := [.inl (h26.1 70 9)]) (rest := [.inl a1, .inr (.inr (.inl 82))]) rfl mt_6_i95 (by decide) pp_J6_bitCount_0f7a4 (by decide) rfl rfl (Nat.le_of_ble_eq_true rfl) (Nat.le_of_ble_eq_true rfl) ((k_J6_bitCount_0f7a4 h26 hI (h26.1 70 9)).mono (fun r29 h30 p31 => ?_))
        obtain ⟨rfl, x32, rfl, q33⟩ := p31
        show RUN d_X6_noteLine 73 [(3, .inl x5), (0, .inr (.inr (.inl 75))), (1, .inr (.inr (.inl 70))), (2, .inl a1)] [.inl x32, .inl a1, .inr (.inr (.inl 82))] h26 _
        refine K_iast (a := a1.toInt) (lo := (-2147483648)) (hi' := 2147483647) rfl sh_82 rfl ⟨by omega, by omega⟩ hI (by decide) rfl (i_rng _) fr (by decide) (fun h34 g35 hI fr => ?_)
        have fl4 : FR [76, 77, 79, 81, 82] h h34 := by rw [g35]; exact FR_wI _ _ fl4 (by decide)
        have s36 : (h34.1 70 8).toInt = (h26.1 70 8).toInt := by rw [g35, wI_ne _ _ _ (by decide)]
        have s37 : (h34.1 70 9).toInt = (h26.1 70 9).toInt := by rw [g35, wI_ne _ _ _ (by decide)]
        exact R_vret rfl rfl ⟨hI, fr, trivial, rfl⟩
      · refine R_aload_n (k := 0) rfl rfl rfl ?_
        refine R_getf_r (j := 0) rfl ft_6_9 sh_75 rfl ?_
        refine R_iload_n (k := 2) rfl rfl rfl ?_
        refine R_bipush 6 rfl rfl ?_
        refine N_imul (a := a1.toInt) (b := 6) rfl rfl (by decide) (by omega) (fun x38 q39 => ?_)
        refine R_iload_n (k := 3) rfl rfl rfl ?_
        refine N_iadd (a := x38.toInt) (b := x5.toInt) rfl rfl rfl (by omega) (fun x40 q41 => ?_)
        refine R_aload_n (k := 1) rfl rfl rfl ?_
        refine R_getf_r (j := 3) rfl ft_6_85 sh_70 rfl ?_
        refine R_iload_n (k := 3) rfl rfl rfl ?_
        refine R_iald rfl sh_74 ⟨by omega, by omega⟩ ?_
        refine N_any (fun x42 => ?_)
        refine K_iast (a := x40.toInt) (lo := (-2147483648)) (hi' := 2147483647) rfl sh_76 rfl ⟨by omega, by omega⟩ hI (by decide) rfl (i_rng _) fr (by decide) (fun h43 g44 hI fr => ?_)
        have fl4 : FR [76, 77, 79, 81, 82] h h43 := by rw [g44]; exact FR_wI _ _ fl4 (by decide)
        refine N_iinc (a := x5.toInt) (c := 1) (fun w => [(3, .inl w), (0, .inr (.inr (.inl 75))), (1, .inr (.inr (.inl 70))), (2, .inl a1)]) rfl rfl (fun _ => rfl) (by decide) rfl (by decide) (by omega) (fun x45 q46 => ?_)
        refine R_goto 2 rfl rfl ?_
        exact RUN_weak (psub_cons rfl (psub_cons rfl (psub_cons rfl (psub_cons rfl (psub_nil _))))) (ih6 h43 x45 hI fr fl4 (by omega) (by omega))
  exact lp2 _ h (0 : Int32) hI fr (FR.rf _ _) (by decide) (Nat.lt_succ_self _)
abbrev q_X6_lossOf (h : PH) (a0 : Int32) : Option PV → PH → Prop := fun r h' => h = h' ∧ ∃ z : Int32, r = some (.inl z) ∧ ((True))
set_option maxHeartbeats 4000000 in
set_option maxRecDepth 100000 in
theorem k_X6_lossOf (h : PH) (hI : INV h) (a0 : Int32) (h0a : 0 ≤ a0.toInt ∧ a0.toInt ≤ 5) : CALL d_X6_lossOf [.inr (.inr (.inl 75)), .inl a0] h (q_X6_lossOf h a0) := by
  show RUN d_X6_lossOf 0 [(0, .inr (.inr (.inl 75))), (1, .inl a0)] [] h _
  refine R_aload_n (k := 0) rfl rfl rfl ?_
  refine R_getf_r (j := 10) rfl ft_6_42 sh_75 rfl ?_
  refine R_iload_n (k := 1) rfl rfl rfl ?_
  refine R_iald rfl sh_86 ⟨by omega, by omega⟩ ?_
  refine N_any (fun x1 => ?_)
  refine R_aload_n (k := 0) rfl rfl rfl ?_
  refine R_getf_r (j := 10) rfl ft_6_42 sh_75 rfl ?_
  refine R_iload_n (k := 1) rfl rfl rfl ?_
  refine R_iconst 1 rfl rfl ?_
  refine N_iadd (a := a0.toInt) (b := 1) rfl rfl (by decide) (by omega) (fun x2 q3 => ?_)
  refine R_iald rfl sh_86 ⟨by omega, by omega⟩ ?_
  refine N_any (fun x4 => ?_)
  have b5 := i_rng x1
  have b6 := i_rng x4
  refine R_isub rfl ?_
  refine N_any (fun x7 => ?_)
  exact R_iret rfl rfl rfl ⟨rfl, _, rfl, trivial⟩
abbrev q_X8_burnsOn (h : PH) (a0 : Int32) (a1 : Int32) (a2 : Int32) : Option PV → PH → Prop := fun r h' => h = h' ∧ ∃ z : Int32, r = some (.inl z) ∧ ((True))
set_option maxHeartbeats 4000000 in
set_option maxRecDepth 100000 in
theorem k_X8_burnsOn (h : PH) (hI : INV h) (a0 : Int32) (a1 : Int32) (a2 : Int32) : CALL d_X8_burnsOn [.inl a0, .inl a1, .inl a2] h (q_X8_burnsOn h a0 a1 a2) := by
  show RUN d_X8_burnsOn 0 [(0, .inl a0), (1, .inl a1), (2, .inl a2)] [] h _
  have b1 := i_rng a0
  have b2 := i_rng a1
  have b3 := i_rng a2
  refine R_iload_n (k := 0) rfl rfl rfl ?_
  refine R_iload_n (k := 1) rfl rfl rfl ?_
  have b4 := i_rng a0
  have b5 := i_rng a1
  refine R_isub rfl ?_
  refine N_any (fun x6 => ?_)
  refine R_istore_n (k := 3) rfl [(3, .inl x6), (0, .inl a0), (1, .inl a1), (2, .inl a2)] rfl rfl (by decide) ?_
  refine R_iload_n (k := 3) rfl rfl rfl ?_
  refine N_if_le (a := x6.toInt) 14 rfl rfl rfl (fun c7 => ?_) (fun c7 => ?_)
  · refine R_iconst 0 rfl rfl ?_
    exact R_iret rfl rfl rfl ⟨rfl, _, rfl, trivial⟩
  · refine R_iload_n (k := 3) rfl rfl rfl ?_
    refine R_iload_n (k := 2) rfl rfl rfl ?_
    have b8 := i_rng x6
    have b9 := i_rng a2
    refine R_iadd rfl ?_
    refine N_any (fun x10 => ?_)
    refine R_goto 15 rfl rfl ?_
    exact R_iret rfl rfl rfl ⟨rfl, _, rfl, trivial⟩
abbrev q_X6_noteSums (h : PH) (a2 : Int32) : Option PV → PH → Prop := fun r h' => INV h' ∧ FR [75, 83, 84, 85] h h' ∧ ((h'.1 75 12).toInt = (h.1 75 12).toInt ∧ True) ∧ r = none
set_option maxHeartbeats 4000000 in
set_option maxRecDepth 100000 in
theorem k_X6_noteSums (h : PH) (hI : INV h) (a2 : Int32) (h2a : 0 ≤ a2.toInt ∧ a2.toInt ≤ 59) : CALL d_X6_noteSums [.inr (.inr (.inl 75)), .inr (.inr (.inl 16)), .inr (.inr (.inl 70)), .inl a2] h (q_X6_noteSums h a2) := by
  show RUN d_X6_noteSums 0 [(0, .inr (.inr (.inl 75))), (1, .inr (.inr (.inl 16))), (2, .inr (.inr (.inl 70))), (3, .inl a2)] [] h _
  have fr : FR [75, 83, 84, 85] h h := FR.rf _ _
  refine R_aload_n (k := 2) rfl rfl rfl ?_
  refine R_aload_n (k := 0) rfl rfl rfl ?_
  refine R_getf_r (j := 4) rfl ft_6_24 sh_75 rfl ?_
  refine R_iload_n (k := 3) rfl rfl rfl ?_
  refine R_iald rfl sh_80 ⟨by omega, by omega⟩ ?_
  refine N_any (fun x1 => ?_)
  have b2 : (0 : Int) ≤ (h.1 70 4).toInt ∧ (h.1 70 4).toInt ≤ 6 := hI.1 70 4
  refine R_callV (v := .inr (.inr (.inl 70))) (As := [.inl x1]) (rest := []) rfl mt_6_i100 pp_X2_isThrow (by decide) rfl rfl rfl (Nat.le_of_ble_eq_true rfl) (Nat.le_of_ble_eq_true rfl) ((k_X2_isThrow h hI x1).mono (fun r3 h4 p5 => ?_))
  obtain ⟨rfl, x6, rfl, q7 | q7 | q7⟩ := p5
  · show RUN d_X6_noteSums 10 [(0, .inr (.inr (.inl 75))), (1, .inr (.inr (.inl 16))), (2, .inr (.inr (.inl 70))), (3, .inl a2)] [.inl x6] h _
    refine R_istore (k := 4) [(4, .inl x6), (0, .inr (.inr (.inl 75))), (1, .inr (.inr (.inl 16))), (2, .inr (.inr (.inl 70))), (3, .inl a2)] rfl rfl (by decide) ?_
    refine R_iconst 0 rfl rfl ?_
    refine R_istore (k := 5) [(5, .inl 0), (4, .inl x6), (0, .inr (.inr (.inl 75))), (1, .inr (.inr (.inl 16))), (2, .inr (.inr (.inl 70))), (3, .inl a2)] rfl rfl (by decide) ?_
    refine R_iconst 0 rfl rfl ?_
    refine R_istore (k := 6) [(6, .inl 0), (5, .inl 0), (4, .inl x6), (0, .inr (.inr (.inl 75))), (1, .inr (.inr (.inl 16))), (2, .inr (.inr (.inl 70))), (3, .inl a2)] rfl rfl (by decide) ?_
    have lp9 : ∀ (n8 : Nat) (h10 : PH) (x12 : Int32) (x13 : Int32), INV h10 → FR [75, 83, 84, 85] h h10 → FR [83, 84, 85] h h10 → 0 ≤ x13.toInt ∧ x13.toInt ≤ 6 → (6 - x13.toInt).toNat < n8 → RUN d_X6_noteSums 18 [(6, .inl x13), (5, .inl x12), (4, .inl x6), (0, .inr (.inr (.inl 75))), (1, .inr (.inr (.inl 16))), (2, .inr (.inr (.inl 70))), (3, .inl a2)] [] h10 (q_X6_noteSums h a2) := by
      intro n8
      induction n8 with
      | zero => intro h10 x12 x13 m15 m16 m17 m18 hz; exact absurd hz (Nat.not_lt_zero _)
      | succ n8 ih14 =>
        intro h10 x12 x13 hI fr fl11 m18 hz
        have s19 : (h10.1 75 12).toInt = (h.1 75 12).toInt := by rw [(fl11 75 (by decide)).1]
        have s20 : (h10.1 70 4).toInt = (h.1 70 4).toInt := by rw [(fl11 70 (by decide)).1]
        refine R_iload (k := 6) rfl rfl ?_
        refine R_bipush 6 rfl rfl ?_
        refine N_icmp_ge (a := x13.toInt) (b := 6) 57 rfl rfl rfl (by decide) (fun c21 => ?_) (fun c21 => ?_)
        · refine R_iload_n (k := 3) rfl rfl rfl ?_
          refine N_if_ne (a := a2.toInt) 71 rfl rfl rfl (fun c22 => ?_) (fun c22 => ?_)
          · refine R_aload_n (k := 0) rfl rfl rfl ?_
            refine R_getf_r (j := 9) rfl ft_6_39 sh_75 rfl ?_
            refine R_iload_n (k := 3) rfl rfl rfl ?_
            refine R_iconst 1 rfl rfl ?_
            refine N_isub (a := a2.toInt) (b := 1) rfl rfl (by decide) (by omega) (fun x23 q24 => ?_)
            refine R_iald rfl sh_85 ⟨by omega, by omega⟩ ?_
            refine N_any (fun x25 => ?_)
            refine R_istore (k := 6) [(6, .inl x25), (5, .inl x12), (4, .inl x6), (0, .inr (.inr (.inl 75))), (1, .inr (.inr (.inl 16))), (2, .inr (.inr (.inl 70))), (3, .inl a2)] rfl rfl (by decide) ?_
            refine R_aload_n (k := 0) rfl rfl rfl ?_
            refine R_getf_r (j := 7) rfl ft_6_33 sh_75 rfl ?_
            refine R_iload_n (k := 3) rfl rfl rfl ?_
            refine R_iload_n (k := 3) rfl rfl rfl ?_
            refine N_if_ne (a := a2.toInt) 94 rfl rfl rfl (fun c26 => ?_) (fun c26 => ?_)
            · refine R_aload_n (k := 0) rfl rfl rfl ?_
              refine R_getf_r (j := 7) rfl ft_6_33 sh_75 rfl ?_
              refine R_iload_n (k := 3) rfl rfl rfl ?_
              refine R_iconst 1 rfl rfl ?_
              refine N_isub (a := a2.toInt) (b := 1) rfl rfl (by decide) (by omega) (fun x27 q28 => ?_)
              refine R_iald rfl sh_83 ⟨by omega, by omega⟩ ?_
              refine N_any (fun x29 => ?_)
              refine R_iload (k := 4) rfl rfl ?_
              refine N_if_eq (a := x6.toInt) 111 rfl rfl rfl (fun c30 => ?_) (fun c30 => ?_)
              · refine R_iconst 0 rfl rfl ?_
                have b31 := i_rng x29
                refine N_iadd (a := x29.toInt) (b := 0) rfl rfl (by decide) (by omega) (fun x32 q33 => ?_)
                refine K_iast (a := a2.toInt) (lo := (-2147483648)) (hi' := 2147483647) rfl sh_83 rfl ⟨by omega, by omega⟩ hI (by decide) rfl (i_rng _) fr (by decide) (fun h34 g35 hI fr => ?_)
                have fl11 : FR [83, 84, 85] h h34 := by rw [g35]; exact FR_wI _ _ fl11 (by decide)
                have s36 : (h34.1 75 12).toInt = (h10.1 75 12).toInt := by rw [g35, wI_ne _ _ _ (by decide)]
                have s37 : (h34.1 70 4).toInt = (h10.1 70 4).toInt := by rw [g35, wI_ne _ _ _ (by decide)]
                refine R_aload_n (k := 0) rfl rfl rfl ?_
                refine R_getf_r (j := 8) rfl ft_6_36 sh_75 rfl ?_
                refine R_iload_n (k := 3) rfl rfl rfl ?_
                refine R_iload_n (k := 3) rfl rfl rfl ?_
                refine N_if_ne (a := a2.toInt) 127 rfl rfl rfl (fun c38 => ?_) (fun c38 => ?_)
                · refine R_aload_n (k := 0) rfl rfl rfl ?_
                  refine R_getf_r (j := 8) rfl ft_6_36 sh_75 rfl ?_
                  refine R_iload_n (k := 3) rfl rfl rfl ?_
                  refine R_iconst 1 rfl rfl ?_
                  refine N_isub (a := a2.toInt) (b := 1) rfl rfl (by decide) (by omega) (fun x39 q40 => ?_)
                  refine R_iald rfl sh_84 ⟨by omega, by omega⟩ ?_
                  refine N_any (fun x41 => ?_)
                  refine R_iload (k := 5) rfl rfl ?_
                  have b42 := i_rng x41
                  have b43 := i_rng x12
                  refine R_iadd rfl ?_
                  refine N_any (fun x44 => ?_)
                  refine K_iast (a := a2.toInt) (lo := (-2147483648)) (hi' := 2147483647) rfl sh_84 rfl ⟨by omega, by omega⟩ hI (by decide) rfl (i_rng _) fr (by decide) (fun h45 g46 hI fr => ?_)
                  have fl11 : FR [83, 84, 85] h h45 := by rw [g46]; exact FR_wI _ _ fl11 (by decide)
                  have s47 : (h45.1 75 12).toInt = (h34.1 75 12).toInt := by rw [g46, wI_ne _ _ _ (by decide)]
                  have s48 : (h45.1 70 4).toInt = (h34.1 70 4).toInt := by rw [g46, wI_ne _ _ _ (by decide)]
                  refine R_aload_n (k := 0) rfl rfl rfl ?_
                  refine R_getf_r (j := 9) rfl ft_6_39 sh_75 rfl ?_
                  refine R_iload_n (k := 3) rfl rfl rfl ?_
                  refine R_iload (k := 6) rfl rfl ?_
                  refine R_iload (k := 4) rfl rfl ?_
                  refine N_if_eq (a := x6.toInt) 158 rfl rfl rfl (fun c49 => ?_) (fun c49 => ?_)
                  · refine R_iconst 0 rfl rfl ?_
                    refine R_aload_n (k := 1) rfl rfl rfl ?_
                    refine R_getf_r (j := 0) rfl ft_6_65 sh_16 rfl ?_
                    refine R_bipush 8 rfl rfl ?_
                    refine R_iald rfl sh_17 (by decide) ?_
                    show RUN d_X6_noteSums 166 [(6, .inl x25), (5, .inl x12), (4, .inl x6), (0, .inr (.inr (.inl 75))), (1, .inr (.inr (.inl 16))), (2, .inr (.inr (.inl 70))), (3, .inl a2)] [.inl (h45.1 17 8), .inl 0, .inl x25, .inl a2, .inr (.inr (.inl 85))] h45 _
                    have k50 : (0 : Int32).toInt = 0 := by decide
                    refine R_callS (As := [.inl x25, .inl 0, .inl (h45.1 17 8)]) (rest := [.inl a2, .inr (.inr (.inl 85))]) rfl mt_6_i111 (by decide) pp_X8_burnsOn (by decide) rfl rfl (Nat.le_of_ble_eq_true rfl) (Nat.le_of_ble_eq_true rfl) ((k_X8_burnsOn h45 hI x25 (0 : Int32) (h45.1 17 8)).mono (fun r51 h52 p53 => ?_))
                    obtain ⟨rfl, x54, rfl, q55⟩ := p53
                    show RUN d_X6_noteSums 169 [(6, .inl x25), (5, .inl x12), (4, .inl x6), (0, .inr (.inr (.inl 75))), (1, .inr (.inr (.inl 16))), (2, .inr (.inr (.inl 70))), (3, .inl a2)] [.inl x54, .inl a2, .inr (.inr (.inl 85))] h45 _
                    refine K_iast (a := a2.toInt) (lo := (-2147483648)) (hi' := 2147483647) rfl sh_85 rfl ⟨by omega, by omega⟩ hI (by decide) rfl (i_rng _) fr (by decide) (fun h56 g57 hI fr => ?_)
                    have fl11 : FR [83, 84, 85] h h56 := by rw [g57]; exact FR_wI _ _ fl11 (by decide)
                    have s58 : (h56.1 75 12).toInt = (h45.1 75 12).toInt := by rw [g57, wI_ne _ _ _ (by decide)]
                    have s59 : (h56.1 70 4).toInt = (h45.1 70 4).toInt := by rw [g57, wI_ne _ _ _ (by decide)]
                    have s60 : (h56.1 17 8).toInt = (h45.1 17 8).toInt := by rw [g57, wI_ne _ _ _ (by decide)]
                    refine R_iload (k := 4) rfl rfl ?_
                    refine N_if_eq (a := x6.toInt) 187 rfl rfl rfl (fun c61 => ?_) (fun c61 => ?_)
                    · exact R_vret rfl rfl ⟨hI, fr, ⟨by omega, trivial⟩, rfl⟩
                    · exfalso; omega
                  · exfalso; omega
                · exfalso; omega
              · exfalso; omega
            · exfalso; omega
          · refine R_aload_n (k := 1) rfl rfl rfl ?_
            refine R_getf_r (j := 0) rfl ft_6_65 sh_16 rfl ?_
            refine R_bipush 7 rfl rfl ?_
            refine R_iald rfl sh_17 (by decide) ?_
            show RUN d_X6_noteSums 68 [(6, .inl x13), (5, .inl x12), (4, .inl x6), (0, .inr (.inr (.inl 75))), (1, .inr (.inr (.inl 16))), (2, .inr (.inr (.inl 70))), (3, .inl a2)] [.inl (h10.1 17 7)] h10 _
            refine R_goto 79 rfl rfl ?_
            refine R_istore (k := 6) [(6, .inl (h10.1 17 7)), (5, .inl x12), (4, .inl x6), (0, .inr (.inr (.inl 75))), (1, .inr (.inr (.inl 16))), (2, .inr (.inr (.inl 70))), (3, .inl a2)] rfl rfl (by decide) ?_
            refine R_aload_n (k := 0) rfl rfl rfl ?_
            refine R_getf_r (j := 7) rfl ft_6_33 sh_75 rfl ?_
            refine R_iload_n (k := 3) rfl rfl rfl ?_
            refine R_iload_n (k := 3) rfl rfl rfl ?_
            refine N_if_ne (a := a2.toInt) 94 rfl rfl rfl (fun c62 => ?_) (fun c62 => ?_)
            · exfalso; omega
            · refine R_iconst 0 rfl rfl ?_
              refine R_goto 102 rfl rfl ?_
              refine R_iload (k := 4) rfl rfl ?_
              refine N_if_eq (a := x6.toInt) 111 rfl rfl rfl (fun c63 => ?_) (fun c63 => ?_)
              · refine R_iconst 0 rfl rfl ?_
                refine N_iadd (a := 0) (b := 0) rfl (by decide) (by decide) (by omega) (fun x64 q65 => ?_)
                refine K_iast (a := a2.toInt) (lo := (-2147483648)) (hi' := 2147483647) rfl sh_83 rfl ⟨by omega, by omega⟩ hI (by decide) rfl (i_rng _) fr (by decide) (fun h66 g67 hI fr => ?_)
                have fl11 : FR [83, 84, 85] h h66 := by rw [g67]; exact FR_wI _ _ fl11 (by decide)
                have s68 : (h66.1 75 12).toInt = (h10.1 75 12).toInt := by rw [g67, wI_ne _ _ _ (by decide)]
                have s69 : (h66.1 70 4).toInt = (h10.1 70 4).toInt := by rw [g67, wI_ne _ _ _ (by decide)]
                have s70 : (h66.1 17 7).toInt = (h10.1 17 7).toInt := by rw [g67, wI_ne _ _ _ (by decide)]
                refine R_aload_n (k := 0) rfl rfl rfl ?_
                refine R_getf_r (j := 8) rfl ft_6_36 sh_75 rfl ?_
                refine R_iload_n (k := 3) rfl rfl rfl ?_
                refine R_iload_n (k := 3) rfl rfl rfl ?_
                refine N_if_ne (a := a2.toInt) 127 rfl rfl rfl (fun c71 => ?_) (fun c71 => ?_)
                · exfalso; omega
                · refine R_iconst 0 rfl rfl ?_
                  refine R_goto 135 rfl rfl ?_
                  refine R_iload (k := 5) rfl rfl ?_
                  have b72 := i_rng x12
                  refine N_iadd (a := 0) (b := x12.toInt) rfl (by decide) rfl (by omega) (fun x73 q74 => ?_)
                  refine K_iast (a := a2.toInt) (lo := (-2147483648)) (hi' := 2147483647) rfl sh_84 rfl ⟨by omega, by omega⟩ hI (by decide) rfl (i_rng _) fr (by decide) (fun h75 g76 hI fr => ?_)
                  have fl11 : FR [83, 84, 85] h h75 := by rw [g76]; exact FR_wI _ _ fl11 (by decide)
                  have s77 : (h75.1 75 12).toInt = (h66.1 75 12).toInt := by rw [g76, wI_ne _ _ _ (by decide)]
                  have s78 : (h75.1 70 4).toInt = (h66.1 70 4).toInt := by rw [g76, wI_ne _ _ _ (by decide)]
                  have s79 : (h75.1 17 7).toInt = (h66.1 17 7).toInt := by rw [g76, wI_ne _ _ _ (by decide)]
                  refine R_aload_n (k := 0) rfl rfl rfl ?_
                  refine R_getf_r (j := 9) rfl ft_6_39 sh_75 rfl ?_
                  refine R_iload_n (k := 3) rfl rfl rfl ?_
                  refine R_iload (k := 6) rfl rfl ?_
                  refine R_iload (k := 4) rfl rfl ?_
                  refine N_if_eq (a := x6.toInt) 158 rfl rfl rfl (fun c80 => ?_) (fun c80 => ?_)
                  · refine R_iconst 0 rfl rfl ?_
                    refine R_aload_n (k := 1) rfl rfl rfl ?_
                    refine R_getf_r (j := 0) rfl ft_6_65 sh_16 rfl ?_
                    refine R_bipush 8 rfl rfl ?_
                    refine R_iald rfl sh_17 (by decide) ?_
                    show RUN d_X6_noteSums 166 [(6, .inl (h10.1 17 7)), (5, .inl x12), (4, .inl x6), (0, .inr (.inr (.inl 75))), (1, .inr (.inr (.inl 16))), (2, .inr (.inr (.inl 70))), (3, .inl a2)] [.inl (h75.1 17 8), .inl 0, .inl (h10.1 17 7), .inl a2, .inr (.inr (.inl 85))] h75 _
                    have k81 : (0 : Int32).toInt = 0 := by decide
                    refine R_callS (As := [.inl (h10.1 17 7), .inl 0, .inl (h75.1 17 8)]) (rest := [.inl a2, .inr (.inr (.inl 85))]) rfl mt_6_i111 (by decide) pp_X8_burnsOn (by decide) rfl rfl (Nat.le_of_ble_eq_true rfl) (Nat.le_of_ble_eq_true rfl) ((k_X8_burnsOn h75 hI (h10.1 17 7) (0 : Int32) (h75.1 17 8)).mono (fun r82 h83 p84 => ?_))
                    obtain ⟨rfl, x85, rfl, q86⟩ := p84
                    show RUN d_X6_noteSums 169 [(6, .inl (h10.1 17 7)), (5, .inl x12), (4, .inl x6), (0, .inr (.inr (.inl 75))), (1, .inr (.inr (.inl 16))), (2, .inr (.inr (.inl 70))), (3, .inl a2)] [.inl x85, .inl a2, .inr (.inr (.inl 85))] h75 _
                    refine K_iast (a := a2.toInt) (lo := (-2147483648)) (hi' := 2147483647) rfl sh_85 rfl ⟨by omega, by omega⟩ hI (by decide) rfl (i_rng _) fr (by decide) (fun h87 g88 hI fr => ?_)
                    have fl11 : FR [83, 84, 85] h h87 := by rw [g88]; exact FR_wI _ _ fl11 (by decide)
                    have s89 : (h87.1 75 12).toInt = (h75.1 75 12).toInt := by rw [g88, wI_ne _ _ _ (by decide)]
                    have s90 : (h87.1 70 4).toInt = (h75.1 70 4).toInt := by rw [g88, wI_ne _ _ _ (by decide)]
                    have s91 : (h87.1 17 7).toInt = (h75.1 17 7).toInt := by rw [g88, wI_ne _ _ _ (by decide)]
                    have s92 : (h87.1 17 8).toInt = (h75.1 17 8).toInt := by rw [g88, wI_ne _ _ _ (by decide)]
                    refine R_iload (k := 4) rfl rfl ?_
                    refine N_if_eq (a := x6.toInt) 187 rfl rfl rfl (fun c93 => ?_) (fun c93 => ?_)
                    · exact R_vret rfl rfl ⟨hI, fr, ⟨by omega, trivial⟩, rfl⟩
                    · exfalso; omega
                  · exfalso; omega
              · exfalso; omega
        · refine R_aload_n (k := 0) rfl rfl rfl ?_
          refine R_getf_r (j := 4) rfl ft_6_24 sh_75 rfl ?_
          refine R_iload_n (k := 3) rfl rfl rfl ?_
          refine R_iald rfl sh_80 ⟨by omega, by omega⟩ ?_
          refine N_any (fun x94 => ?_)
          refine N_i2l rfl (fun w95 q96 => ?_)
          refine R_iload (k := 6) rfl rfl ?_
          refine R_callS (As := [.inr (.inl w95), .inl x13]) (rest := []) rfl mt_6_i104 (by decide) pp_X8_hasBit (by decide) rfl rfl (Nat.le_of_ble_eq_true rfl) (Nat.le_of_ble_eq_true rfl) ((k_X8_hasBit h10 hI w95 x13).mono (fun r97 h98 p99 => ?_))
          obtain ⟨rfl, x100, rfl, q101 | q101⟩ := p99
          · show RUN d_X6_noteSums 37 [(6, .inl x13), (5, .inl x12), (4, .inl x6), (0, .inr (.inr (.inl 75))), (1, .inr (.inr (.inl 16))), (2, .inr (.inr (.inl 70))), (3, .inl a2)] [.inl x100] h10 _
            refine N_if_eq (a := x100.toInt) 51 rfl rfl rfl (fun c102 => ?_) (fun c102 => ?_)
            · refine N_iinc (a := x13.toInt) (c := 1) (fun w => [(6, .inl w), (5, .inl x12), (4, .inl x6), (0, .inr (.inr (.inl 75))), (1, .inr (.inr (.inl 16))), (2, .inr (.inr (.inl 70))), (3, .inl a2)]) rfl rfl (fun _ => rfl) (by decide) rfl (by decide) (by omega) (fun x103 q104 => ?_)
              refine R_goto 18 rfl rfl ?_
              exact RUN_weak (psub_cons rfl (psub_cons rfl (psub_cons rfl (psub_cons rfl (psub_cons rfl (psub_cons rfl (psub_cons rfl (psub_nil _)))))))) (ih14 h10 x12 x103 hI fr fl11 (by omega) (by omega))
            · exfalso; omega
          · show RUN d_X6_noteSums 37 [(6, .inl x13), (5, .inl x12), (4, .inl x6), (0, .inr (.inr (.inl 75))), (1, .inr (.inr (.inl 16))), (2, .inr (.inr (.inl 70))), (3, .inl a2)] [.inl x100] h10 _
            refine N_if_eq (a := x100.toInt) 51 rfl rfl rfl (fun c105 => ?_) (fun c105 => ?_)
            · exfalso; omega
            · refine R_iload (k := 5) rfl rfl ?_
              refine R_aload_n (k := 0) rfl rfl rfl ?_
              refine R_iload (k := 6) rfl rfl ?_
              refine R_callV (v := .inr (.inr (.inl 75))) (As := [.inl x13]) (rest := [.inl x12]) rfl mt_6_i108 pp_X6_lossOf (by decide) rfl rfl rfl (Nat.le_of_ble_eq_true rfl) (Nat.le_of_ble_eq_true rfl) ((k_X6_lossOf h10 hI x13 (by omega)).mono (fun r106 h107 p108 => ?_))
              obtain ⟨rfl, x109, rfl, q110⟩ := p108
              show RUN d_X6_noteSums 48 [(6, .inl x13), (5, .inl x12), (4, .inl x6), (0, .inr (.inr (.inl 75))), (1, .inr (.inr (.inl 16))), (2, .inr (.inr (.inl 70))), (3, .inl a2)] [.inl x109, .inl x12] h10 _
              have b111 := i_rng x12
              have b112 := i_rng x109
              refine R_iadd rfl ?_
              refine N_any (fun x113 => ?_)
              refine R_istore (k := 5) [(5, .inl x113), (6, .inl x13), (4, .inl x6), (0, .inr (.inr (.inl 75))), (1, .inr (.inr (.inl 16))), (2, .inr (.inr (.inl 70))), (3, .inl a2)] rfl rfl (by decide) ?_
              refine N_iinc (a := x13.toInt) (c := 1) (fun w => [(6, .inl w), (5, .inl x113), (4, .inl x6), (0, .inr (.inr (.inl 75))), (1, .inr (.inr (.inl 16))), (2, .inr (.inr (.inl 70))), (3, .inl a2)]) rfl rfl (fun _ => rfl) (by decide) rfl (by decide) (by omega) (fun x114 q115 => ?_)
              refine R_goto 18 rfl rfl ?_
              exact RUN_weak (psub_cons rfl (psub_cons rfl (psub_cons rfl (psub_cons rfl (psub_cons rfl (psub_cons rfl (psub_cons rfl (psub_nil _)))))))) (ih14 h10 x113 x114 hI fr fl11 (by omega) (by omega))
    exact lp9 _ h (0 : Int32) (0 : Int32) hI fr (FR.rf _ _) (by decide) (Nat.lt_succ_self _)
  · show RUN d_X6_noteSums 10 [(0, .inr (.inr (.inl 75))), (1, .inr (.inr (.inl 16))), (2, .inr (.inr (.inl 70))), (3, .inl a2)] [.inl x6] h _
    refine R_istore (k := 4) [(4, .inl x6), (0, .inr (.inr (.inl 75))), (1, .inr (.inr (.inl 16))), (2, .inr (.inr (.inl 70))), (3, .inl a2)] rfl rfl (by decide) ?_
    refine R_iconst 0 rfl rfl ?_
    refine R_istore (k := 5) [(5, .inl 0), (4, .inl x6), (0, .inr (.inr (.inl 75))), (1, .inr (.inr (.inl 16))), (2, .inr (.inr (.inl 70))), (3, .inl a2)] rfl rfl (by decide) ?_
    refine R_iconst 0 rfl rfl ?_
    refine R_istore (k := 6) [(6, .inl 0), (5, .inl 0), (4, .inl x6), (0, .inr (.inr (.inl 75))), (1, .inr (.inr (.inl 16))), (2, .inr (.inr (.inl 70))), (3, .inl a2)] rfl rfl (by decide) ?_
    have lp117 : ∀ (n116 : Nat) (h118 : PH) (x120 : Int32) (x121 : Int32), INV h118 → FR [75, 83, 84, 85] h h118 → FR [83, 84, 85] h h118 → 0 ≤ x121.toInt ∧ x121.toInt ≤ 6 → (6 - x121.toInt).toNat < n116 → RUN d_X6_noteSums 18 [(6, .inl x121), (5, .inl x120), (4, .inl x6), (0, .inr (.inr (.inl 75))), (1, .inr (.inr (.inl 16))), (2, .inr (.inr (.inl 70))), (3, .inl a2)] [] h118 (q_X6_noteSums h a2) := by
      intro n116
      induction n116 with
      | zero => intro h118 x120 x121 m123 m124 m125 m126 hz; exact absurd hz (Nat.not_lt_zero _)
      | succ n116 ih122 =>
        intro h118 x120 x121 hI fr fl119 m126 hz
        have s127 : (h118.1 75 12).toInt = (h.1 75 12).toInt := by rw [(fl119 75 (by decide)).1]
        have s128 : (h118.1 70 4).toInt = (h.1 70 4).toInt := by rw [(fl119 70 (by decide)).1]
        refine R_iload (k := 6) rfl rfl ?_
        refine R_bipush 6 rfl rfl ?_
        refine N_icmp_ge (a := x121.toInt) (b := 6) 57 rfl rfl rfl (by decide) (fun c129 => ?_) (fun c129 => ?_)
        · refine R_iload_n (k := 3) rfl rfl rfl ?_
          refine N_if_ne (a := a2.toInt) 71 rfl rfl rfl (fun c130 => ?_) (fun c130 => ?_)
          · refine R_aload_n (k := 0) rfl rfl rfl ?_
            refine R_getf_r (j := 9) rfl ft_6_39 sh_75 rfl ?_
            refine R_iload_n (k := 3) rfl rfl rfl ?_
            refine R_iconst 1 rfl rfl ?_
            refine N_isub (a := a2.toInt) (b := 1) rfl rfl (by decide) (by omega) (fun x131 q132 => ?_)
            refine R_iald rfl sh_85 ⟨by omega, by omega⟩ ?_
            refine N_any (fun x133 => ?_)
            refine R_istore (k := 6) [(6, .inl x133), (5, .inl x120), (4, .inl x6), (0, .inr (.inr (.inl 75))), (1, .inr (.inr (.inl 16))), (2, .inr (.inr (.inl 70))), (3, .inl a2)] rfl rfl (by decide) ?_
            refine R_aload_n (k := 0) rfl rfl rfl ?_
            refine R_getf_r (j := 7) rfl ft_6_33 sh_75 rfl ?_
            refine R_iload_n (k := 3) rfl rfl rfl ?_
            refine R_iload_n (k := 3) rfl rfl rfl ?_
            refine N_if_ne (a := a2.toInt) 94 rfl rfl rfl (fun c134 => ?_) (fun c134 => ?_)
            · refine R_aload_n (k := 0) rfl rfl rfl ?_
              refine R_getf_r (j := 7) rfl ft_6_33 sh_75 rfl ?_
              refine R_iload_n (k := 3) rfl rfl rfl ?_
              refine R_iconst 1 rfl rfl ?_
              refine N_isub (a := a2.toInt) (b := 1) rfl rfl (by decide) (by omega) (fun x135 q136 => ?_)
              refine R_iald rfl sh_83 ⟨by omega, by omega⟩ ?_
              refine N_any (fun x137 => ?_)
              refine R_iload (k := 4) rfl rfl ?_
              refine N_if_eq (a := x6.toInt) 111 rfl rfl rfl (fun c138 => ?_) (fun c138 => ?_)
              · refine R_iconst 0 rfl rfl ?_
                have b139 := i_rng x137
                refine N_iadd (a := x137.toInt) (b := 0) rfl rfl (by decide) (by omega) (fun x140 q141 => ?_)
                refine K_iast (a := a2.toInt) (lo := (-2147483648)) (hi' := 2147483647) rfl sh_83 rfl ⟨by omega, by omega⟩ hI (by decide) rfl (i_rng _) fr (by decide) (fun h142 g143 hI fr => ?_)
                have fl119 : FR [83, 84, 85] h h142 := by rw [g143]; exact FR_wI _ _ fl119 (by decide)
                have s144 : (h142.1 75 12).toInt = (h118.1 75 12).toInt := by rw [g143, wI_ne _ _ _ (by decide)]
                have s145 : (h142.1 70 4).toInt = (h118.1 70 4).toInt := by rw [g143, wI_ne _ _ _ (by decide)]
                refine R_aload_n (k := 0) rfl rfl rfl ?_
                refine R_getf_r (j := 8) rfl ft_6_36 sh_75 rfl ?_
                refine R_iload_n (k := 3) rfl rfl rfl ?_
                refine R_iload_n (k := 3) rfl rfl rfl ?_
                refine N_if_ne (a := a2.toInt) 127 rfl rfl rfl (fun c146 => ?_) (fun c146 => ?_)
                · refine R_aload_n (k := 0) rfl rfl rfl ?_
                  refine R_getf_r (j := 8) rfl ft_6_36 sh_75 rfl ?_
                  refine R_iload_n (k := 3) rfl rfl rfl ?_
                  refine R_iconst 1 rfl rfl ?_
                  refine N_isub (a := a2.toInt) (b := 1) rfl rfl (by decide) (by omega) (fun x147 q148 => ?_)
                  refine R_iald rfl sh_84 ⟨by omega, by omega⟩ ?_
                  refine N_any (fun x149 => ?_)
                  refine R_iload (k := 5) rfl rfl ?_
                  have b150 := i_rng x149
                  have b151 := i_rng x120
                  refine R_iadd rfl ?_
                  refine N_any (fun x152 => ?_)
                  refine K_iast (a := a2.toInt) (lo := (-2147483648)) (hi' := 2147483647) rfl sh_84 rfl ⟨by omega, by omega⟩ hI (by decide) rfl (i_rng _) fr (by decide) (fun h153 g154 hI fr => ?_)
                  have fl119 : FR [83, 84, 85] h h153 := by rw [g154]; exact FR_wI _ _ fl119 (by decide)
                  have s155 : (h153.1 75 12).toInt = (h142.1 75 12).toInt := by rw [g154, wI_ne _ _ _ (by decide)]
                  have s156 : (h153.1 70 4).toInt = (h142.1 70 4).toInt := by rw [g154, wI_ne _ _ _ (by decide)]
                  refine R_aload_n (k := 0) rfl rfl rfl ?_
                  refine R_getf_r (j := 9) rfl ft_6_39 sh_75 rfl ?_
                  refine R_iload_n (k := 3) rfl rfl rfl ?_
                  refine R_iload (k := 6) rfl rfl ?_
                  refine R_iload (k := 4) rfl rfl ?_
                  refine N_if_eq (a := x6.toInt) 158 rfl rfl rfl (fun c157 => ?_) (fun c157 => ?_)
                  · refine R_iconst 0 rfl rfl ?_
                    refine R_aload_n (k := 1) rfl rfl rfl ?_
                    refine R_getf_r (j := 0) rfl ft_6_65 sh_16 rfl ?_
                    refine R_bipush 8 rfl rfl ?_
                    refine R_iald rfl sh_17 (by decide) ?_
                    show RUN d_X6_noteSums 166 [(6, .inl x133), (5, .inl x120), (4, .inl x6), (0, .inr (.inr (.inl 75))), (1, .inr (.inr (.inl 16))), (2, .inr (.inr (.inl 70))), (3, .inl a2)] [.inl (h153.1 17 8), .inl 0, .inl x133, .inl a2, .inr (.inr (.inl 85))] h153 _
                    have k158 : (0 : Int32).toInt = 0 := by decide
                    refine R_callS (As := [.inl x133, .inl 0, .inl (h153.1 17 8)]) (rest := [.inl a2, .inr (.inr (.inl 85))]) rfl mt_6_i111 (by decide) pp_X8_burnsOn (by decide) rfl rfl (Nat.le_of_ble_eq_true rfl) (Nat.le_of_ble_eq_true rfl) ((k_X8_burnsOn h153 hI x133 (0 : Int32) (h153.1 17 8)).mono (fun r159 h160 p161 => ?_))
                    obtain ⟨rfl, x162, rfl, q163⟩ := p161
                    show RUN d_X6_noteSums 169 [(6, .inl x133), (5, .inl x120), (4, .inl x6), (0, .inr (.inr (.inl 75))), (1, .inr (.inr (.inl 16))), (2, .inr (.inr (.inl 70))), (3, .inl a2)] [.inl x162, .inl a2, .inr (.inr (.inl 85))] h153 _
                    refine K_iast (a := a2.toInt) (lo := (-2147483648)) (hi' := 2147483647) rfl sh_85 rfl ⟨by omega, by omega⟩ hI (by decide) rfl (i_rng _) fr (by decide) (fun h164 g165 hI fr => ?_)
                    have fl119 : FR [83, 84, 85] h h164 := by rw [g165]; exact FR_wI _ _ fl119 (by decide)
                    have s166 : (h164.1 75 12).toInt = (h153.1 75 12).toInt := by rw [g165, wI_ne _ _ _ (by decide)]
                    have s167 : (h164.1 70 4).toInt = (h153.1 70 4).toInt := by rw [g165, wI_ne _ _ _ (by decide)]
                    have s168 : (h164.1 17 8).toInt = (h153.1 17 8).toInt := by rw [g165, wI_ne _ _ _ (by decide)]
                    refine R_iload (k := 4) rfl rfl ?_
                    refine N_if_eq (a := x6.toInt) 187 rfl rfl rfl (fun c169 => ?_) (fun c169 => ?_)
                    · exact R_vret rfl rfl ⟨hI, fr, ⟨by omega, trivial⟩, rfl⟩
                    · exfalso; omega
                  · exfalso; omega
                · exfalso; omega
              · exfalso; omega
            · exfalso; omega
          · refine R_aload_n (k := 1) rfl rfl rfl ?_
            refine R_getf_r (j := 0) rfl ft_6_65 sh_16 rfl ?_
            refine R_bipush 7 rfl rfl ?_
            refine R_iald rfl sh_17 (by decide) ?_
            show RUN d_X6_noteSums 68 [(6, .inl x121), (5, .inl x120), (4, .inl x6), (0, .inr (.inr (.inl 75))), (1, .inr (.inr (.inl 16))), (2, .inr (.inr (.inl 70))), (3, .inl a2)] [.inl (h118.1 17 7)] h118 _
            refine R_goto 79 rfl rfl ?_
            refine R_istore (k := 6) [(6, .inl (h118.1 17 7)), (5, .inl x120), (4, .inl x6), (0, .inr (.inr (.inl 75))), (1, .inr (.inr (.inl 16))), (2, .inr (.inr (.inl 70))), (3, .inl a2)] rfl rfl (by decide) ?_
            refine R_aload_n (k := 0) rfl rfl rfl ?_
            refine R_getf_r (j := 7) rfl ft_6_33 sh_75 rfl ?_
            refine R_iload_n (k := 3) rfl rfl rfl ?_
            refine R_iload_n (k := 3) rfl rfl rfl ?_
            refine N_if_ne (a := a2.toInt) 94 rfl rfl rfl (fun c170 => ?_) (fun c170 => ?_)
            · exfalso; omega
            · refine R_iconst 0 rfl rfl ?_
              refine R_goto 102 rfl rfl ?_
              refine R_iload (k := 4) rfl rfl ?_
              refine N_if_eq (a := x6.toInt) 111 rfl rfl rfl (fun c171 => ?_) (fun c171 => ?_)
              · refine R_iconst 0 rfl rfl ?_
                refine N_iadd (a := 0) (b := 0) rfl (by decide) (by decide) (by omega) (fun x172 q173 => ?_)
                refine K_iast (a := a2.toInt) (lo := (-2147483648)) (hi' := 2147483647) rfl sh_83 rfl ⟨by omega, by omega⟩ hI (by decide) rfl (i_rng _) fr (by decide) (fun h174 g175 hI fr => ?_)
                have fl119 : FR [83, 84, 85] h h174 := by rw [g175]; exact FR_wI _ _ fl119 (by decide)
                have s176 : (h174.1 75 12).toInt = (h118.1 75 12).toInt := by rw [g175, wI_ne _ _ _ (by decide)]
                have s177 : (h174.1 70 4).toInt = (h118.1 70 4).toInt := by rw [g175, wI_ne _ _ _ (by decide)]
                have s178 : (h174.1 17 7).toInt = (h118.1 17 7).toInt := by rw [g175, wI_ne _ _ _ (by decide)]
                refine R_aload_n (k := 0) rfl rfl rfl ?_
                refine R_getf_r (j := 8) rfl ft_6_36 sh_75 rfl ?_
                refine R_iload_n (k := 3) rfl rfl rfl ?_
                refine R_iload_n (k := 3) rfl rfl rfl ?_
                refine N_if_ne (a := a2.toInt) 127 rfl rfl rfl (fun c179 => ?_) (fun c179 => ?_)
                · exfalso; omega
                · refine R_iconst 0 rfl rfl ?_
                  refine R_goto 135 rfl rfl ?_
                  refine R_iload (k := 5) rfl rfl ?_
                  have b180 := i_rng x120
                  refine N_iadd (a := 0) (b := x120.toInt) rfl (by decide) rfl (by omega) (fun x181 q182 => ?_)
                  refine K_iast (a := a2.toInt) (lo := (-2147483648)) (hi' := 2147483647) rfl sh_84 rfl ⟨by omega, by omega⟩ hI (by decide) rfl (i_rng _) fr (by decide) (fun h183 g184 hI fr => ?_)
                  have fl119 : FR [83, 84, 85] h h183 := by rw [g184]; exact FR_wI _ _ fl119 (by decide)
                  have s185 : (h183.1 75 12).toInt = (h174.1 75 12).toInt := by rw [g184, wI_ne _ _ _ (by decide)]
                  have s186 : (h183.1 70 4).toInt = (h174.1 70 4).toInt := by rw [g184, wI_ne _ _ _ (by decide)]
                  have s187 : (h183.1 17 7).toInt = (h174.1 17 7).toInt := by rw [g184, wI_ne _ _ _ (by decide)]
                  refine R_aload_n (k := 0) rfl rfl rfl ?_
                  refine R_getf_r (j := 9) rfl ft_6_39 sh_75 rfl ?_
                  refine R_iload_n (k := 3) rfl rfl rfl ?_
                  refine R_iload (k := 6) rfl rfl ?_
                  refine R_iload (k := 4) rfl rfl ?_
                  refine N_if_eq (a := x6.toInt) 158 rfl rfl rfl (fun c188 => ?_) (fun c188 => ?_)
                  · refine R_iconst 0 rfl rfl ?_
                    refine R_aload_n (k := 1) rfl rfl rfl ?_
                    refine R_getf_r (j := 0) rfl ft_6_65 sh_16 rfl ?_
                    refine R_bipush 8 rfl rfl ?_
                    refine R_iald rfl sh_17 (by decide) ?_
                    show RUN d_X6_noteSums 166 [(6, .inl (h118.1 17 7)), (5, .inl x120), (4, .inl x6), (0, .inr (.inr (.inl 75))), (1, .inr (.inr (.inl 16))), (2, .inr (.inr (.inl 70))), (3, .inl a2)] [.inl (h183.1 17 8), .inl 0, .inl (h118.1 17 7), .inl a2, .inr (.inr (.inl 85))] h183 _
                    have k189 : (0 : Int32).toInt = 0 := by decide
                    refine R_callS (As := [.inl (h118.1 17 7), .inl 0, .inl (h183.1 17 8)]) (rest := [.inl a2, .inr (.inr (.inl 85))]) rfl mt_6_i111 (by decide) pp_X8_burnsOn (by decide) rfl rfl (Nat.le_of_ble_eq_true rfl) (Nat.le_of_ble_eq_true rfl) ((k_X8_burnsOn h183 hI (h118.1 17 7) (0 : Int32) (h183.1 17 8)).mono (fun r190 h191 p192 => ?_))
                    obtain ⟨rfl, x193, rfl, q194⟩ := p192
                    show RUN d_X6_noteSums 169 [(6, .inl (h118.1 17 7)), (5, .inl x120), (4, .inl x6), (0, .inr (.inr (.inl 75))), (1, .inr (.inr (.inl 16))), (2, .inr (.inr (.inl 70))), (3, .inl a2)] [.inl x193, .inl a2, .inr (.inr (.inl 85))] h183 _
                    refine K_iast (a := a2.toInt) (lo := (-2147483648)) (hi' := 2147483647) rfl sh_85 rfl ⟨by omega, by omega⟩ hI (by decide) rfl (i_rng _) fr (by decide) (fun h195 g196 hI fr => ?_)
                    have fl119 : FR [83, 84, 85] h h195 := by rw [g196]; exact FR_wI _ _ fl119 (by decide)
                    have s197 : (h195.1 75 12).toInt = (h183.1 75 12).toInt := by rw [g196, wI_ne _ _ _ (by decide)]
                    have s198 : (h195.1 70 4).toInt = (h183.1 70 4).toInt := by rw [g196, wI_ne _ _ _ (by decide)]
                    have s199 : (h195.1 17 7).toInt = (h183.1 17 7).toInt := by rw [g196, wI_ne _ _ _ (by decide)]
                    have s200 : (h195.1 17 8).toInt = (h183.1 17 8).toInt := by rw [g196, wI_ne _ _ _ (by decide)]
                    refine R_iload (k := 4) rfl rfl ?_
                    refine N_if_eq (a := x6.toInt) 187 rfl rfl rfl (fun c201 => ?_) (fun c201 => ?_)
                    · exact R_vret rfl rfl ⟨hI, fr, ⟨by omega, trivial⟩, rfl⟩
                    · exfalso; omega
                  · exfalso; omega
              · exfalso; omega
        · refine R_aload_n (k := 0) rfl rfl rfl ?_
          refine R_getf_r (j := 4) rfl ft_6_24 sh_75 rfl ?_
          refine R_iload_n (k := 3) rfl rfl rfl ?_
          refine R_iald rfl sh_80 ⟨by omega, by omega⟩ ?_
          refine N_any (fun x202 => ?_)
          refine N_i2l rfl (fun w203 q204 => ?_)
          refine R_iload (k := 6) rfl rfl ?_
          refine R_callS (As := [.inr (.inl w203), .inl x121]) (rest := []) rfl mt_6_i104 (by decide) pp_X8_hasBit (by decide) rfl rfl (Nat.le_of_ble_eq_true rfl) (Nat.le_of_ble_eq_true rfl) ((k_X8_hasBit h118 hI w203 x121).mono (fun r205 h206 p207 => ?_))
          obtain ⟨rfl, x208, rfl, q209 | q209⟩ := p207
          · show RUN d_X6_noteSums 37 [(6, .inl x121), (5, .inl x120), (4, .inl x6), (0, .inr (.inr (.inl 75))), (1, .inr (.inr (.inl 16))), (2, .inr (.inr (.inl 70))), (3, .inl a2)] [.inl x208] h118 _
            refine N_if_eq (a := x208.toInt) 51 rfl rfl rfl (fun c210 => ?_) (fun c210 => ?_)
            · refine N_iinc (a := x121.toInt) (c := 1) (fun w => [(6, .inl w), (5, .inl x120), (4, .inl x6), (0, .inr (.inr (.inl 75))), (1, .inr (.inr (.inl 16))), (2, .inr (.inr (.inl 70))), (3, .inl a2)]) rfl rfl (fun _ => rfl) (by decide) rfl (by decide) (by omega) (fun x211 q212 => ?_)
              refine R_goto 18 rfl rfl ?_
              exact RUN_weak (psub_cons rfl (psub_cons rfl (psub_cons rfl (psub_cons rfl (psub_cons rfl (psub_cons rfl (psub_cons rfl (psub_nil _)))))))) (ih122 h118 x120 x211 hI fr fl119 (by omega) (by omega))
            · exfalso; omega
          · show RUN d_X6_noteSums 37 [(6, .inl x121), (5, .inl x120), (4, .inl x6), (0, .inr (.inr (.inl 75))), (1, .inr (.inr (.inl 16))), (2, .inr (.inr (.inl 70))), (3, .inl a2)] [.inl x208] h118 _
            refine N_if_eq (a := x208.toInt) 51 rfl rfl rfl (fun c213 => ?_) (fun c213 => ?_)
            · exfalso; omega
            · refine R_iload (k := 5) rfl rfl ?_
              refine R_aload_n (k := 0) rfl rfl rfl ?_
              refine R_iload (k := 6) rfl rfl ?_
              refine R_callV (v := .inr (.inr (.inl 75))) (As := [.inl x121]) (rest := [.inl x120]) rfl mt_6_i108 pp_X6_lossOf (by decide) rfl rfl rfl (Nat.le_of_ble_eq_true rfl) (Nat.le_of_ble_eq_true rfl) ((k_X6_lossOf h118 hI x121 (by omega)).mono (fun r214 h215 p216 => ?_))
              obtain ⟨rfl, x217, rfl, q218⟩ := p216
              show RUN d_X6_noteSums 48 [(6, .inl x121), (5, .inl x120), (4, .inl x6), (0, .inr (.inr (.inl 75))), (1, .inr (.inr (.inl 16))), (2, .inr (.inr (.inl 70))), (3, .inl a2)] [.inl x217, .inl x120] h118 _
              have b219 := i_rng x120
              have b220 := i_rng x217
              refine R_iadd rfl ?_
              refine N_any (fun x221 => ?_)
              refine R_istore (k := 5) [(5, .inl x221), (6, .inl x121), (4, .inl x6), (0, .inr (.inr (.inl 75))), (1, .inr (.inr (.inl 16))), (2, .inr (.inr (.inl 70))), (3, .inl a2)] rfl rfl (by decide) ?_
              refine N_iinc (a := x121.toInt) (c := 1) (fun w => [(6, .inl w), (5, .inl x221), (4, .inl x6), (0, .inr (.inr (.inl 75))), (1, .inr (.inr (.inl 16))), (2, .inr (.inr (.inl 70))), (3, .inl a2)]) rfl rfl (fun _ => rfl) (by decide) rfl (by decide) (by omega) (fun x222 q223 => ?_)
              refine R_goto 18 rfl rfl ?_
              exact RUN_weak (psub_cons rfl (psub_cons rfl (psub_cons rfl (psub_cons rfl (psub_cons rfl (psub_cons rfl (psub_cons rfl (psub_nil _)))))))) (ih122 h118 x221 x222 hI fr fl119 (by omega) (by omega))
    exact lp117 _ h (0 : Int32) (0 : Int32) hI fr (FR.rf _ _) (by decide) (Nat.lt_succ_self _)
  · show RUN d_X6_noteSums 10 [(0, .inr (.inr (.inl 75))), (1, .inr (.inr (.inl 16))), (2, .inr (.inr (.inl 70))), (3, .inl a2)] [.inl x6] h _
    refine R_istore (k := 4) [(4, .inl x6), (0, .inr (.inr (.inl 75))), (1, .inr (.inr (.inl 16))), (2, .inr (.inr (.inl 70))), (3, .inl a2)] rfl rfl (by decide) ?_
    refine R_iconst 0 rfl rfl ?_
    refine R_istore (k := 5) [(5, .inl 0), (4, .inl x6), (0, .inr (.inr (.inl 75))), (1, .inr (.inr (.inl 16))), (2, .inr (.inr (.inl 70))), (3, .inl a2)] rfl rfl (by decide) ?_
    refine R_iconst 0 rfl rfl ?_
    refine R_istore (k := 6) [(6, .inl 0), (5, .inl 0), (4, .inl x6), (0, .inr (.inr (.inl 75))), (1, .inr (.inr (.inl 16))), (2, .inr (.inr (.inl 70))), (3, .inl a2)] rfl rfl (by decide) ?_
    have lp225 : ∀ (n224 : Nat) (h226 : PH) (x228 : Int32) (x229 : Int32), INV h226 → FR [75, 83, 84, 85] h h226 → FR [75, 83, 84, 85] h h226 → 0 ≤ x229.toInt ∧ x229.toInt ≤ 6 → (h226.1 75 12).toInt = (h.1 75 12).toInt → (6 - x229.toInt).toNat < n224 → RUN d_X6_noteSums 18 [(6, .inl x229), (5, .inl x228), (4, .inl x6), (0, .inr (.inr (.inl 75))), (1, .inr (.inr (.inl 16))), (2, .inr (.inr (.inl 70))), (3, .inl a2)] [] h226 (q_X6_noteSums h a2) := by
      intro n224
      induction n224 with
      | zero => intro h226 x228 x229 m231 m232 m233 m234 m235 hz; exact absurd hz (Nat.not_lt_zero _)
      | succ n224 ih230 =>
        intro h226 x228 x229 hI fr fl227 m234 m235 hz
        have s236 : (h226.1 70 4).toInt = (h.1 70 4).toInt := by rw [(fl227 70 (by decide)).1]
        refine R_iload (k := 6) rfl rfl ?_
        refine R_bipush 6 rfl rfl ?_
        refine N_icmp_ge (a := x229.toInt) (b := 6) 57 rfl rfl rfl (by decide) (fun c237 => ?_) (fun c237 => ?_)
        · refine R_iload_n (k := 3) rfl rfl rfl ?_
          refine N_if_ne (a := a2.toInt) 71 rfl rfl rfl (fun c238 => ?_) (fun c238 => ?_)
          · refine R_aload_n (k := 0) rfl rfl rfl ?_
            refine R_getf_r (j := 9) rfl ft_6_39 sh_75 rfl ?_
            refine R_iload_n (k := 3) rfl rfl rfl ?_
            refine R_iconst 1 rfl rfl ?_
            refine N_isub (a := a2.toInt) (b := 1) rfl rfl (by decide) (by omega) (fun x239 q240 => ?_)
            refine R_iald rfl sh_85 ⟨by omega, by omega⟩ ?_
            refine N_any (fun x241 => ?_)
            refine R_istore (k := 6) [(6, .inl x241), (5, .inl x228), (4, .inl x6), (0, .inr (.inr (.inl 75))), (1, .inr (.inr (.inl 16))), (2, .inr (.inr (.inl 70))), (3, .inl a2)] rfl rfl (by decide) ?_
            refine R_aload_n (k := 0) rfl rfl rfl ?_
            refine R_getf_r (j := 7) rfl ft_6_33 sh_75 rfl ?_
            refine R_iload_n (k := 3) rfl rfl rfl ?_
            refine R_iload_n (k := 3) rfl rfl rfl ?_
            refine N_if_ne (a := a2.toInt) 94 rfl rfl rfl (fun c242 => ?_) (fun c242 => ?_)
            · refine R_aload_n (k := 0) rfl rfl rfl ?_
              refine R_getf_r (j := 7) rfl ft_6_33 sh_75 rfl ?_
              refine R_iload_n (k := 3) rfl rfl rfl ?_
              refine R_iconst 1 rfl rfl ?_
              refine N_isub (a := a2.toInt) (b := 1) rfl rfl (by decide) (by omega) (fun x243 q244 => ?_)
              refine R_iald rfl sh_83 ⟨by omega, by omega⟩ ?_
              refine N_any (fun x245 => ?_)
              refine R_iload (k := 4) rfl rfl ?_
              refine N_if_eq (a := x6.toInt) 111 rfl rfl rfl (fun c246 => ?_) (fun c246 => ?_)
              · exfalso; omega
              · refine R_iconst 1 rfl rfl ?_
                refine R_goto 112 rfl rfl ?_
                have b247 := i_rng x245
                refine R_iadd rfl ?_
                refine N_any (fun x248 => ?_)
                refine K_iast (a := a2.toInt) (lo := (-2147483648)) (hi' := 2147483647) rfl sh_83 rfl ⟨by omega, by omega⟩ hI (by decide) rfl (i_rng _) fr (by decide) (fun h249 g250 hI fr => ?_)
                have fl227 : FR [75, 83, 84, 85] h h249 := by rw [g250]; exact FR_wI _ _ fl227 (by decide)
                have s251 : (h249.1 75 12).toInt = (h226.1 75 12).toInt := by rw [g250, wI_ne _ _ _ (by decide)]
                have s252 : (h249.1 70 4).toInt = (h226.1 70 4).toInt := by rw [g250, wI_ne _ _ _ (by decide)]
                refine R_aload_n (k := 0) rfl rfl rfl ?_
                refine R_getf_r (j := 8) rfl ft_6_36 sh_75 rfl ?_
                refine R_iload_n (k := 3) rfl rfl rfl ?_
                refine R_iload_n (k := 3) rfl rfl rfl ?_
                refine N_if_ne (a := a2.toInt) 127 rfl rfl rfl (fun c253 => ?_) (fun c253 => ?_)
                · refine R_aload_n (k := 0) rfl rfl rfl ?_
                  refine R_getf_r (j := 8) rfl ft_6_36 sh_75 rfl ?_
                  refine R_iload_n (k := 3) rfl rfl rfl ?_
                  refine R_iconst 1 rfl rfl ?_
                  refine N_isub (a := a2.toInt) (b := 1) rfl rfl (by decide) (by omega) (fun x254 q255 => ?_)
                  refine R_iald rfl sh_84 ⟨by omega, by omega⟩ ?_
                  refine N_any (fun x256 => ?_)
                  refine R_iload (k := 5) rfl rfl ?_
                  have b257 := i_rng x256
                  have b258 := i_rng x228
                  refine R_iadd rfl ?_
                  refine N_any (fun x259 => ?_)
                  refine K_iast (a := a2.toInt) (lo := (-2147483648)) (hi' := 2147483647) rfl sh_84 rfl ⟨by omega, by omega⟩ hI (by decide) rfl (i_rng _) fr (by decide) (fun h260 g261 hI fr => ?_)
                  have fl227 : FR [75, 83, 84, 85] h h260 := by rw [g261]; exact FR_wI _ _ fl227 (by decide)
                  have s262 : (h260.1 75 12).toInt = (h249.1 75 12).toInt := by rw [g261, wI_ne _ _ _ (by decide)]
                  have s263 : (h260.1 70 4).toInt = (h249.1 70 4).toInt := by rw [g261, wI_ne _ _ _ (by decide)]
                  refine R_aload_n (k := 0) rfl rfl rfl ?_
                  refine R_getf_r (j := 9) rfl ft_6_39 sh_75 rfl ?_
                  refine R_iload_n (k := 3) rfl rfl rfl ?_
                  refine R_iload (k := 6) rfl rfl ?_
                  refine R_iload (k := 4) rfl rfl ?_
                  refine N_if_eq (a := x6.toInt) 158 rfl rfl rfl (fun c264 => ?_) (fun c264 => ?_)
                  · exfalso; omega
                  · refine R_aload_n (k := 0) rfl rfl rfl ?_
                    refine R_getf_i (j := 12) rfl ft_6_49 sh_75 rfl ?_
                    refine R_goto 159 rfl rfl ?_
                    refine R_aload_n (k := 1) rfl rfl rfl ?_
                    refine R_getf_r (j := 0) rfl ft_6_65 sh_16 rfl ?_
                    refine R_bipush 8 rfl rfl ?_
                    refine R_iald rfl sh_17 (by decide) ?_
                    show RUN d_X6_noteSums 166 [(6, .inl x241), (5, .inl x228), (4, .inl x6), (0, .inr (.inr (.inl 75))), (1, .inr (.inr (.inl 16))), (2, .inr (.inr (.inl 70))), (3, .inl a2)] [.inl (h260.1 17 8), .inl (h260.1 75 12), .inl x241, .inl a2, .inr (.inr (.inl 85))] h260 _
                    refine R_callS (As := [.inl x241, .inl (h260.1 75 12), .inl (h260.1 17 8)]) (rest := [.inl a2, .inr (.inr (.inl 85))]) rfl mt_6_i111 (by decide) pp_X8_burnsOn (by decide) rfl rfl (Nat.le_of_ble_eq_true rfl) (Nat.le_of_ble_eq_true rfl) ((k_X8_burnsOn h260 hI x241 (h260.1 75 12) (h260.1 17 8)).mono (fun r265 h266 p267 => ?_))
                    obtain ⟨rfl, x268, rfl, q269⟩ := p267
                    show RUN d_X6_noteSums 169 [(6, .inl x241), (5, .inl x228), (4, .inl x6), (0, .inr (.inr (.inl 75))), (1, .inr (.inr (.inl 16))), (2, .inr (.inr (.inl 70))), (3, .inl a2)] [.inl x268, .inl a2, .inr (.inr (.inl 85))] h260 _
                    refine K_iast (a := a2.toInt) (lo := (-2147483648)) (hi' := 2147483647) rfl sh_85 rfl ⟨by omega, by omega⟩ hI (by decide) rfl (i_rng _) fr (by decide) (fun h270 g271 hI fr => ?_)
                    have fl227 : FR [75, 83, 84, 85] h h270 := by rw [g271]; exact FR_wI _ _ fl227 (by decide)
                    have s272 : (h270.1 75 12).toInt = (h260.1 75 12).toInt := by rw [g271, wI_ne _ _ _ (by decide)]
                    have s273 : (h270.1 70 4).toInt = (h260.1 70 4).toInt := by rw [g271, wI_ne _ _ _ (by decide)]
                    have s274 : (h270.1 17 8).toInt = (h260.1 17 8).toInt := by rw [g271, wI_ne _ _ _ (by decide)]
                    refine R_iload (k := 4) rfl rfl ?_
                    refine N_if_eq (a := x6.toInt) 187 rfl rfl rfl (fun c275 => ?_) (fun c275 => ?_)
                    · exfalso; omega
                    · refine R_aload_n (k := 0) rfl rfl rfl ?_
                      refine R_dup_r rfl ?_
                      refine R_getf_l (j := 11) rfl ft_6_45 sh_75 rfl ?_
                      refine N_anyL (fun w276 => ?_)
                      refine R_lconst 1 rfl rfl ?_
                      refine R_iload_n (k := 3) rfl rfl rfl ?_
                      refine R_lshl rfl ?_
                      refine N_anyL (fun w277 => ?_)
                      refine R_lor rfl ?_
                      refine N_anyL (fun w278 => ?_)
                      refine K_putl (j := 11) rfl ft_6_45 sh_75 rfl hI fr (by decide) (fun h279 g280 hI fr => ?_)
                      have fl227 : FR [75, 83, 84, 85] h h279 := by rw [g280]; exact FR_wL _ _ fl227 (by decide)
                      have s281 : (h279.1 75 12).toInt = (h270.1 75 12).toInt := by rw [g280, wL_fst]
                      have s282 : (h279.1 70 4).toInt = (h270.1 70 4).toInt := by rw [g280, wL_fst]
                      have s283 : (h279.1 17 8).toInt = (h270.1 17 8).toInt := by rw [g280, wL_fst]
                      exact R_vret rfl rfl ⟨hI, fr, ⟨by omega, trivial⟩, rfl⟩
                · exfalso; omega
            · exfalso; omega
          · refine R_aload_n (k := 1) rfl rfl rfl ?_
            refine R_getf_r (j := 0) rfl ft_6_65 sh_16 rfl ?_
            refine R_bipush 7 rfl rfl ?_
            refine R_iald rfl sh_17 (by decide) ?_
            show RUN d_X6_noteSums 68 [(6, .inl x229), (5, .inl x228), (4, .inl x6), (0, .inr (.inr (.inl 75))), (1, .inr (.inr (.inl 16))), (2, .inr (.inr (.inl 70))), (3, .inl a2)] [.inl (h226.1 17 7)] h226 _
            refine R_goto 79 rfl rfl ?_
            refine R_istore (k := 6) [(6, .inl (h226.1 17 7)), (5, .inl x228), (4, .inl x6), (0, .inr (.inr (.inl 75))), (1, .inr (.inr (.inl 16))), (2, .inr (.inr (.inl 70))), (3, .inl a2)] rfl rfl (by decide) ?_
            refine R_aload_n (k := 0) rfl rfl rfl ?_
            refine R_getf_r (j := 7) rfl ft_6_33 sh_75 rfl ?_
            refine R_iload_n (k := 3) rfl rfl rfl ?_
            refine R_iload_n (k := 3) rfl rfl rfl ?_
            refine N_if_ne (a := a2.toInt) 94 rfl rfl rfl (fun c284 => ?_) (fun c284 => ?_)
            · exfalso; omega
            · refine R_iconst 0 rfl rfl ?_
              refine R_goto 102 rfl rfl ?_
              refine R_iload (k := 4) rfl rfl ?_
              refine N_if_eq (a := x6.toInt) 111 rfl rfl rfl (fun c285 => ?_) (fun c285 => ?_)
              · exfalso; omega
              · refine R_iconst 1 rfl rfl ?_
                refine R_goto 112 rfl rfl ?_
                refine N_iadd (a := 0) (b := 1) rfl (by decide) (by decide) (by omega) (fun x286 q287 => ?_)
                refine K_iast (a := a2.toInt) (lo := (-2147483648)) (hi' := 2147483647) rfl sh_83 rfl ⟨by omega, by omega⟩ hI (by decide) rfl (i_rng _) fr (by decide) (fun h288 g289 hI fr => ?_)
                have fl227 : FR [75, 83, 84, 85] h h288 := by rw [g289]; exact FR_wI _ _ fl227 (by decide)
                have s290 : (h288.1 75 12).toInt = (h226.1 75 12).toInt := by rw [g289, wI_ne _ _ _ (by decide)]
                have s291 : (h288.1 70 4).toInt = (h226.1 70 4).toInt := by rw [g289, wI_ne _ _ _ (by decide)]
                have s292 : (h288.1 17 7).toInt = (h226.1 17 7).toInt := by rw [g289, wI_ne _ _ _ (by decide)]
                refine R_aload_n (k := 0) rfl rfl rfl ?_
                refine R_getf_r (j := 8) rfl ft_6_36 sh_75 rfl ?_
                refine R_iload_n (k := 3) rfl rfl rfl ?_
                refine R_iload_n (k := 3) rfl rfl rfl ?_
                refine N_if_ne (a := a2.toInt) 127 rfl rfl rfl (fun c293 => ?_) (fun c293 => ?_)
                · exfalso; omega
                · refine R_iconst 0 rfl rfl ?_
                  refine R_goto 135 rfl rfl ?_
                  refine R_iload (k := 5) rfl rfl ?_
                  have b294 := i_rng x228
                  refine N_iadd (a := 0) (b := x228.toInt) rfl (by decide) rfl (by omega) (fun x295 q296 => ?_)
                  refine K_iast (a := a2.toInt) (lo := (-2147483648)) (hi' := 2147483647) rfl sh_84 rfl ⟨by omega, by omega⟩ hI (by decide) rfl (i_rng _) fr (by decide) (fun h297 g298 hI fr => ?_)
                  have fl227 : FR [75, 83, 84, 85] h h297 := by rw [g298]; exact FR_wI _ _ fl227 (by decide)
                  have s299 : (h297.1 75 12).toInt = (h288.1 75 12).toInt := by rw [g298, wI_ne _ _ _ (by decide)]
                  have s300 : (h297.1 70 4).toInt = (h288.1 70 4).toInt := by rw [g298, wI_ne _ _ _ (by decide)]
                  have s301 : (h297.1 17 7).toInt = (h288.1 17 7).toInt := by rw [g298, wI_ne _ _ _ (by decide)]
                  refine R_aload_n (k := 0) rfl rfl rfl ?_
                  refine R_getf_r (j := 9) rfl ft_6_39 sh_75 rfl ?_
                  refine R_iload_n (k := 3) rfl rfl rfl ?_
                  refine R_iload (k := 6) rfl rfl ?_
                  refine R_iload (k := 4) rfl rfl ?_
                  refine N_if_eq (a := x6.toInt) 158 rfl rfl rfl (fun c302 => ?_) (fun c302 => ?_)
                  · exfalso; omega
                  · refine R_aload_n (k := 0) rfl rfl rfl ?_
                    refine R_getf_i (j := 12) rfl ft_6_49 sh_75 rfl ?_
                    refine R_goto 159 rfl rfl ?_
                    refine R_aload_n (k := 1) rfl rfl rfl ?_
                    refine R_getf_r (j := 0) rfl ft_6_65 sh_16 rfl ?_
                    refine R_bipush 8 rfl rfl ?_
                    refine R_iald rfl sh_17 (by decide) ?_
                    show RUN d_X6_noteSums 166 [(6, .inl (h226.1 17 7)), (5, .inl x228), (4, .inl x6), (0, .inr (.inr (.inl 75))), (1, .inr (.inr (.inl 16))), (2, .inr (.inr (.inl 70))), (3, .inl a2)] [.inl (h297.1 17 8), .inl (h297.1 75 12), .inl (h226.1 17 7), .inl a2, .inr (.inr (.inl 85))] h297 _
                    refine R_callS (As := [.inl (h226.1 17 7), .inl (h297.1 75 12), .inl (h297.1 17 8)]) (rest := [.inl a2, .inr (.inr (.inl 85))]) rfl mt_6_i111 (by decide) pp_X8_burnsOn (by decide) rfl rfl (Nat.le_of_ble_eq_true rfl) (Nat.le_of_ble_eq_true rfl) ((k_X8_burnsOn h297 hI (h226.1 17 7) (h297.1 75 12) (h297.1 17 8)).mono (fun r303 h304 p305 => ?_))
                    obtain ⟨rfl, x306, rfl, q307⟩ := p305
                    show RUN d_X6_noteSums 169 [(6, .inl (h226.1 17 7)), (5, .inl x228), (4, .inl x6), (0, .inr (.inr (.inl 75))), (1, .inr (.inr (.inl 16))), (2, .inr (.inr (.inl 70))), (3, .inl a2)] [.inl x306, .inl a2, .inr (.inr (.inl 85))] h297 _
                    refine K_iast (a := a2.toInt) (lo := (-2147483648)) (hi' := 2147483647) rfl sh_85 rfl ⟨by omega, by omega⟩ hI (by decide) rfl (i_rng _) fr (by decide) (fun h308 g309 hI fr => ?_)
                    have fl227 : FR [75, 83, 84, 85] h h308 := by rw [g309]; exact FR_wI _ _ fl227 (by decide)
                    have s310 : (h308.1 75 12).toInt = (h297.1 75 12).toInt := by rw [g309, wI_ne _ _ _ (by decide)]
                    have s311 : (h308.1 70 4).toInt = (h297.1 70 4).toInt := by rw [g309, wI_ne _ _ _ (by decide)]
                    have s312 : (h308.1 17 7).toInt = (h297.1 17 7).toInt := by rw [g309, wI_ne _ _ _ (by decide)]
                    have s313 : (h308.1 17 8).toInt = (h297.1 17 8).toInt := by rw [g309, wI_ne _ _ _ (by decide)]
                    refine R_iload (k := 4) rfl rfl ?_
                    refine N_if_eq (a := x6.toInt) 187 rfl rfl rfl (fun c314 => ?_) (fun c314 => ?_)
                    · exfalso; omega
                    · refine R_aload_n (k := 0) rfl rfl rfl ?_
                      refine R_dup_r rfl ?_
                      refine R_getf_l (j := 11) rfl ft_6_45 sh_75 rfl ?_
                      refine N_anyL (fun w315 => ?_)
                      refine R_lconst 1 rfl rfl ?_
                      refine R_iload_n (k := 3) rfl rfl rfl ?_
                      refine R_lshl rfl ?_
                      refine N_anyL (fun w316 => ?_)
                      refine R_lor rfl ?_
                      refine N_anyL (fun w317 => ?_)
                      refine K_putl (j := 11) rfl ft_6_45 sh_75 rfl hI fr (by decide) (fun h318 g319 hI fr => ?_)
                      have fl227 : FR [75, 83, 84, 85] h h318 := by rw [g319]; exact FR_wL _ _ fl227 (by decide)
                      have s320 : (h318.1 75 12).toInt = (h308.1 75 12).toInt := by rw [g319, wL_fst]
                      have s321 : (h318.1 70 4).toInt = (h308.1 70 4).toInt := by rw [g319, wL_fst]
                      have s322 : (h318.1 17 7).toInt = (h308.1 17 7).toInt := by rw [g319, wL_fst]
                      have s323 : (h318.1 17 8).toInt = (h308.1 17 8).toInt := by rw [g319, wL_fst]
                      exact R_vret rfl rfl ⟨hI, fr, ⟨by omega, trivial⟩, rfl⟩
        · refine R_aload_n (k := 0) rfl rfl rfl ?_
          refine R_getf_r (j := 4) rfl ft_6_24 sh_75 rfl ?_
          refine R_iload_n (k := 3) rfl rfl rfl ?_
          refine R_iald rfl sh_80 ⟨by omega, by omega⟩ ?_
          refine N_any (fun x324 => ?_)
          refine N_i2l rfl (fun w325 q326 => ?_)
          refine R_iload (k := 6) rfl rfl ?_
          refine R_callS (As := [.inr (.inl w325), .inl x229]) (rest := []) rfl mt_6_i104 (by decide) pp_X8_hasBit (by decide) rfl rfl (Nat.le_of_ble_eq_true rfl) (Nat.le_of_ble_eq_true rfl) ((k_X8_hasBit h226 hI w325 x229).mono (fun r327 h328 p329 => ?_))
          obtain ⟨rfl, x330, rfl, q331 | q331⟩ := p329
          · show RUN d_X6_noteSums 37 [(6, .inl x229), (5, .inl x228), (4, .inl x6), (0, .inr (.inr (.inl 75))), (1, .inr (.inr (.inl 16))), (2, .inr (.inr (.inl 70))), (3, .inl a2)] [.inl x330] h226 _
            refine N_if_eq (a := x330.toInt) 51 rfl rfl rfl (fun c332 => ?_) (fun c332 => ?_)
            · refine N_iinc (a := x229.toInt) (c := 1) (fun w => [(6, .inl w), (5, .inl x228), (4, .inl x6), (0, .inr (.inr (.inl 75))), (1, .inr (.inr (.inl 16))), (2, .inr (.inr (.inl 70))), (3, .inl a2)]) rfl rfl (fun _ => rfl) (by decide) rfl (by decide) (by omega) (fun x333 q334 => ?_)
              refine R_goto 18 rfl rfl ?_
              exact RUN_weak (psub_cons rfl (psub_cons rfl (psub_cons rfl (psub_cons rfl (psub_cons rfl (psub_cons rfl (psub_cons rfl (psub_nil _)))))))) (ih230 h226 x228 x333 hI fr fl227 (by omega) (by omega) (by omega))
            · exfalso; omega
          · show RUN d_X6_noteSums 37 [(6, .inl x229), (5, .inl x228), (4, .inl x6), (0, .inr (.inr (.inl 75))), (1, .inr (.inr (.inl 16))), (2, .inr (.inr (.inl 70))), (3, .inl a2)] [.inl x330] h226 _
            refine N_if_eq (a := x330.toInt) 51 rfl rfl rfl (fun c335 => ?_) (fun c335 => ?_)
            · exfalso; omega
            · refine R_iload (k := 5) rfl rfl ?_
              refine R_aload_n (k := 0) rfl rfl rfl ?_
              refine R_iload (k := 6) rfl rfl ?_
              refine R_callV (v := .inr (.inr (.inl 75))) (As := [.inl x229]) (rest := [.inl x228]) rfl mt_6_i108 pp_X6_lossOf (by decide) rfl rfl rfl (Nat.le_of_ble_eq_true rfl) (Nat.le_of_ble_eq_true rfl) ((k_X6_lossOf h226 hI x229 (by omega)).mono (fun r336 h337 p338 => ?_))
              obtain ⟨rfl, x339, rfl, q340⟩ := p338
              show RUN d_X6_noteSums 48 [(6, .inl x229), (5, .inl x228), (4, .inl x6), (0, .inr (.inr (.inl 75))), (1, .inr (.inr (.inl 16))), (2, .inr (.inr (.inl 70))), (3, .inl a2)] [.inl x339, .inl x228] h226 _
              have b341 := i_rng x228
              have b342 := i_rng x339
              refine R_iadd rfl ?_
              refine N_any (fun x343 => ?_)
              refine R_istore (k := 5) [(5, .inl x343), (6, .inl x229), (4, .inl x6), (0, .inr (.inr (.inl 75))), (1, .inr (.inr (.inl 16))), (2, .inr (.inr (.inl 70))), (3, .inl a2)] rfl rfl (by decide) ?_
              refine N_iinc (a := x229.toInt) (c := 1) (fun w => [(6, .inl w), (5, .inl x343), (4, .inl x6), (0, .inr (.inr (.inl 75))), (1, .inr (.inr (.inl 16))), (2, .inr (.inr (.inl 70))), (3, .inl a2)]) rfl rfl (fun _ => rfl) (by decide) rfl (by decide) (by omega) (fun x344 q345 => ?_)
              refine R_goto 18 rfl rfl ?_
              exact RUN_weak (psub_cons rfl (psub_cons rfl (psub_cons rfl (psub_cons rfl (psub_cons rfl (psub_cons rfl (psub_cons rfl (psub_nil _)))))))) (ih230 h226 x343 x344 hI fr fl227 (by omega) (by omega) (by omega))
    exact lp225 _ h (0 : Int32) (0 : Int32) hI fr (FR.rf _ _) (by decide) rfl (Nat.lt_succ_self _)
abbrev q_X6_tell (h : PH)  : Option PV → PH → Prop := fun r h' => INV h' ∧ FR [70, 74, 75, 76, 77, 78, 79, 80, 81, 82, 83, 84, 85, 86] h h' ∧ (True) ∧ r = none
set_option maxHeartbeats 4000000 in
set_option maxRecDepth 100000 in
theorem k_X6_tell (h : PH) (hI : INV h)  : CALL d_X6_tell [.inr (.inr (.inl 75)), .inr (.inr (.inl 16)), .inr (.inr (.inl 70))] h (q_X6_tell h) := by
  show RUN d_X6_tell 0 [(0, .inr (.inr (.inl 75))), (1, .inr (.inr (.inl 16))), (2, .inr (.inr (.inl 70)))] [] h _
  have fr : FR [70, 74, 75, 76, 77, 78, 79, 80, 81, 82, 83, 84, 85, 86] h h := FR.rf _ _
  refine R_iconst 0 rfl rfl ?_
  refine R_istore_n (k := 3) rfl [(3, .inl 0), (0, .inr (.inr (.inl 75))), (1, .inr (.inr (.inl 16))), (2, .inr (.inr (.inl 70)))] rfl rfl (by decide) ?_
  have lp2 : ∀ (n1 : Nat) (h3 : PH) (x5 : Int32), INV h3 → FR [70, 74, 75, 76, 77, 78, 79, 80, 81, 82, 83, 84, 85, 86] h h3 → FR [70, 74, 75, 76, 77, 78, 79, 80, 81, 82, 83, 84, 85, 86] h h3 → 0 ≤ x5.toInt ∧ x5.toInt ≤ 7 → (7 - x5.toInt).toNat < n1 → RUN d_X6_tell 2 [(3, .inl x5), (0, .inr (.inr (.inl 75))), (1, .inr (.inr (.inl 16))), (2, .inr (.inr (.inl 70)))] [] h3 (q_X6_tell h) := by
    intro n1
    induction n1 with
    | zero => intro h3 x5 m7 m8 m9 m10 hz; exact absurd hz (Nat.not_lt_zero _)
    | succ n1 ih6 =>
      intro h3 x5 hI fr fl4 m10 hz
      refine R_iload_n (k := 3) rfl rfl rfl ?_
      refine R_bipush 6 rfl rfl ?_
      refine N_icmp_gt (a := x5.toInt) (b := 6) 25 rfl rfl rfl (by decide) (fun c11 => ?_) (fun c11 => ?_)
      · refine R_aload_n (k := 0) rfl rfl rfl ?_
        refine R_aload_n (k := 2) rfl rfl rfl ?_
        refine R_callV (v := .inr (.inr (.inl 70))) (As := []) (rest := [.inr (.inr (.inl 75))]) rfl mt_6_i59 pp_X2_poured (by decide) rfl rfl rfl (Nat.le_of_ble_eq_true rfl) (Nat.le_of_ble_eq_true rfl) ((k_X2_poured h3 hI).mono (fun r12 h13 p14 => ?_))
        obtain ⟨rfl, x15, rfl, q16⟩ := p14
        show RUN d_X6_tell 30 [(3, .inl x5), (0, .inr (.inr (.inl 75))), (1, .inr (.inr (.inl 16))), (2, .inr (.inr (.inl 70)))] [.inl x15, .inr (.inr (.inl 75))] h3 _
        refine K_putf (j := 12) (lo := (-2147483648)) (hi' := 2147483647) rfl ft_6_49 sh_75 rfl hI (by decide) rfl (i_rng _) fr (by decide) (fun h17 g18 hI fr => ?_)
        have fl4 : FR [70, 74, 75, 76, 77, 78, 79, 80, 81, 82, 83, 84, 85, 86] h h17 := by rw [g18]; exact FR_wI _ _ fl4 (by decide)
        have s19 : (h17.1 75 12).toInt = x15.toInt := by rw [g18, wI_is]
        refine R_aload_n (k := 0) rfl rfl rfl ?_
        refine R_lconst 0 rfl rfl ?_
        refine K_putl (j := 11) rfl ft_6_45 sh_75 rfl hI fr (by decide) (fun h20 g21 hI fr => ?_)
        have fl4 : FR [70, 74, 75, 76, 77, 78, 79, 80, 81, 82, 83, 84, 85, 86] h h20 := by rw [g21]; exact FR_wL _ _ fl4 (by decide)
        have s22 : (h20.1 75 12).toInt = (h17.1 75 12).toInt := by rw [g21, wL_fst]
        refine R_aload_n (k := 2) rfl rfl rfl ?_
        refine R_callV (v := .inr (.inr (.inl 70))) (As := []) (rest := []) rfl mt_6_i62 pp_X2_begin (by decide) rfl rfl rfl (Nat.le_of_ble_eq_true rfl) (Nat.le_of_ble_eq_true rfl) ((k_X2_begin h20 hI).mono (fun r23 h24 p25 => ?_))
        obtain ⟨hJ, fj, -, rfl⟩ := p25
        have f26 := fj
        have fr := fr.trans fj (by decide)
        have hI := hJ
        have fl4 : FR [70, 74, 75, 76, 77, 78, 79, 80, 81, 82, 83, 84, 85, 86] h h24 := fl4.trans fj (by decide)
        have s27 : (h24.1 75 12).toInt = (h20.1 75 12).toInt := by rw [(f26 75 (by decide)).1]
        show RUN d_X6_tell 42 [(3, .inl x5), (0, .inr (.inr (.inl 75))), (1, .inr (.inr (.inl 16))), (2, .inr (.inr (.inl 70)))] [] h24 _
        refine R_iconst 0 rfl rfl ?_
        refine R_istore_n (k := 3) rfl [(3, .inl 0), (0, .inr (.inr (.inl 75))), (1, .inr (.inr (.inl 16))), (2, .inr (.inr (.inl 70)))] rfl rfl (by decide) ?_
        have lp29 : ∀ (n28 : Nat) (h30 : PH) (x32 : Int32), INV h30 → FR [70, 74, 75, 76, 77, 78, 79, 80, 81, 82, 83, 84, 85, 86] h h30 → FR [70, 74, 75, 76, 77, 78, 79, 80, 81, 82, 83, 84, 85] h24 h30 → 0 ≤ x32.toInt ∧ x32.toInt ≤ 60 → (h30.1 75 12).toInt = (h24.1 75 12).toInt → (60 - x32.toInt).toNat < n28 → RUN d_X6_tell 44 [(3, .inl x32), (0, .inr (.inr (.inl 75))), (1, .inr (.inr (.inl 16))), (2, .inr (.inr (.inl 70)))] [] h30 (q_X6_tell h) := by
          intro n28
          induction n28 with
          | zero => intro h30 x32 m34 m35 m36 m37 m38 hz; exact absurd hz (Nat.not_lt_zero _)
          | succ n28 ih33 =>
            intro h30 x32 hI fr fl31 m37 m38 hz
            have fl4 : FR [70, 74, 75, 76, 77, 78, 79, 80, 81, 82, 83, 84, 85, 86] h h30 := fl4.trans fl31 (by decide)
            refine R_iload_n (k := 3) rfl rfl rfl ?_
            refine R_aload_n (k := 1) rfl rfl rfl ?_
            refine R_getf_r (j := 0) rfl ft_6_65 sh_16 rfl ?_
            refine R_iconst 0 rfl rfl ?_
            refine R_iald rfl sh_17 (by decide) ?_
            have b39 : (0 : Int) ≤ (h30.1 17 0).toInt ∧ (h30.1 17 0).toInt ≤ 60 := hI.1 17 0
            show RUN d_X6_tell 51 [(3, .inl x32), (0, .inr (.inr (.inl 75))), (1, .inr (.inr (.inl 16))), (2, .inr (.inr (.inl 70)))] [.inl (h30.1 17 0), .inl x32] h30 _
            refine N_icmp_ge (a := x32.toInt) (b := (h30.1 17 0).toInt) 114 rfl rfl rfl rfl (fun c40 => ?_) (fun c40 => ?_)
            · exact R_vret rfl rfl ⟨hI, fr, trivial, rfl⟩
            · refine R_iload_n (k := 3) rfl rfl rfl ?_
              refine R_bipush 60 rfl rfl ?_
              refine N_icmp_ge (a := x32.toInt) (b := 60) 114 rfl rfl rfl (by decide) (fun c41 => ?_) (fun c41 => ?_)
              · exfalso; omega
              · refine R_aload_n (k := 2) rfl rfl rfl ?_
                refine R_callV (v := .inr (.inr (.inl 70))) (As := []) (rest := []) rfl mt_6_i70 pp_X2_readyBits (by decide) rfl rfl rfl (Nat.le_of_ble_eq_true rfl) (Nat.le_of_ble_eq_true rfl) ((k_X2_readyBits h30 hI).mono (fun r42 h43 p44 => ?_))
                obtain ⟨rfl, x45, rfl, q46⟩ := p44
                show RUN d_X6_tell 64 [(3, .inl x32), (0, .inr (.inr (.inl 75))), (1, .inr (.inr (.inl 16))), (2, .inr (.inr (.inl 70)))] [.inl x45] h30 _
                refine R_istore (k := 4) [(4, .inl x45), (3, .inl x32), (0, .inr (.inr (.inl 75))), (1, .inr (.inr (.inl 16))), (2, .inr (.inr (.inl 70)))] rfl rfl (by decide) ?_
                refine R_aload_n (k := 0) rfl rfl rfl ?_
                refine R_getf_r (j := 4) rfl ft_6_24 sh_75 rfl ?_
                refine R_iload_n (k := 3) rfl rfl rfl ?_
                refine R_aload_n (k := 2) rfl rfl rfl ?_
                refine R_iload_n (k := 3) rfl rfl rfl ?_
                refine R_iconst 0 rfl rfl ?_
                have k47 : (0 : Int32).toInt = 0 := by decide
                refine R_callV (v := .inr (.inr (.inl 70))) (As := [.inl x32, .inl 0]) (rest := [.inl x32, .inr (.inr (.inl 80))]) rfl mt_6_i73 pp_X2_step (by decide) rfl rfl rfl (Nat.le_of_ble_eq_true rfl) (Nat.le_of_ble_eq_true rfl) ((k_X2_step h30 hI x32 (0 : Int32) (by omega) (by decide)).mono (fun r48 h49 p50 => ?_))
                obtain ⟨hJ, fj, -, x51, rfl, q52⟩ := p50
                have f53 := fj
                have fr := fr.trans fj (by decide)
                have hI := hJ
                have fl31 : FR [70, 74, 75, 76, 77, 78, 79, 80, 81, 82, 83, 84, 85] h24 h49 := fl31.trans fj (by decide)
                have fl4 : FR [70, 74, 75, 76, 77, 78, 79, 80, 81, 82, 83, 84, 85, 86] h h49 := fl4.trans fj (by decide)
                have s54 : (h49.1 75 12).toInt = (h30.1 75 12).toInt := by rw [(f53 75 (by decide)).1]
                have s55 : (h49.1 17 0).toInt = (h30.1 17 0).toInt := by rw [(f53 17 (by decide)).1]
                show RUN d_X6_tell 77 [(4, .inl x45), (3, .inl x32), (0, .inr (.inr (.inl 75))), (1, .inr (.inr (.inl 16))), (2, .inr (.inr (.inl 70)))] [.inl x51, .inl x32, .inr (.inr (.inl 80))] h49 _
                refine K_iast (a := x32.toInt) (lo := (-2147483648)) (hi' := 2147483647) rfl sh_80 rfl ⟨by omega, by omega⟩ hI (by decide) rfl (i_rng _) fr (by decide) (fun h56 g57 hI fr => ?_)
                have fl31 : FR [70, 74, 75, 76, 77, 78, 79, 80, 81, 82, 83, 84, 85] h24 h56 := by rw [g57]; exact FR_wI _ _ fl31 (by decide)
                have fl4 : FR [70, 74, 75, 76, 77, 78, 79, 80, 81, 82, 83, 84, 85, 86] h h56 := by rw [g57]; exact FR_wI _ _ fl4 (by decide)
                have s58 : (h56.1 75 12).toInt = (h49.1 75 12).toInt := by rw [g57, wI_ne _ _ _ (by decide)]
                have s59 : (h56.1 17 0).toInt = (h49.1 17 0).toInt := by rw [g57, wI_ne _ _ _ (by decide)]
                refine R_aload_n (k := 0) rfl rfl rfl ?_
                refine R_getf_r (j := 2) rfl ft_6_18 sh_75 rfl ?_
                refine R_iload_n (k := 3) rfl rfl rfl ?_
                refine R_iload (k := 4) rfl rfl ?_
                refine R_aload_n (k := 0) rfl rfl rfl ?_
                refine R_getf_r (j := 4) rfl ft_6_24 sh_75 rfl ?_
                refine R_iload_n (k := 3) rfl rfl rfl ?_
                refine R_iald rfl sh_80 ⟨by omega, by omega⟩ ?_
                refine N_any (fun x60 => ?_)
                refine R_iconst (-1) rfl rfl ?_
                refine R_ixor rfl ?_
                refine N_any (fun x61 => ?_)
                refine R_iand rfl ?_
                refine N_any (fun x62 => ?_)
                refine K_iast (a := x32.toInt) (lo := (-2147483648)) (hi' := 2147483647) rfl sh_78 rfl ⟨by omega, by omega⟩ hI (by decide) rfl (i_rng _) fr (by decide) (fun h63 g64 hI fr => ?_)
                have fl31 : FR [70, 74, 75, 76, 77, 78, 79, 80, 81, 82, 83, 84, 85] h24 h63 := by rw [g64]; exact FR_wI _ _ fl31 (by decide)
                have fl4 : FR [70, 74, 75, 76, 77, 78, 79, 80, 81, 82, 83, 84, 85, 86] h h63 := by rw [g64]; exact FR_wI _ _ fl4 (by decide)
                have s65 : (h63.1 75 12).toInt = (h56.1 75 12).toInt := by rw [g64, wI_ne _ _ _ (by decide)]
                have s66 : (h63.1 17 0).toInt = (h56.1 17 0).toInt := by rw [g64, wI_ne _ _ _ (by decide)]
                refine R_aload_n (k := 0) rfl rfl rfl ?_
                refine R_aload_n (k := 2) rfl rfl rfl ?_
                refine R_iload_n (k := 3) rfl rfl rfl ?_
                refine R_callV (v := .inr (.inr (.inl 75))) (As := [.inr (.inr (.inl 70)), .inl x32]) (rest := []) rfl mt_6_i77 pp_X6_noteLine (by decide) rfl rfl rfl (Nat.le_of_ble_eq_true rfl) (Nat.le_of_ble_eq_true rfl) ((k_X6_noteLine h63 hI x32 (by omega)).mono (fun r67 h68 p69 => ?_))
                obtain ⟨hJ, fj, -, rfl⟩ := p69
                have f70 := fj
                have fr := fr.trans fj (by decide)
                have hI := hJ
                have fl31 : FR [70, 74, 75, 76, 77, 78, 79, 80, 81, 82, 83, 84, 85] h24 h68 := fl31.trans fj (by decide)
                have fl4 : FR [70, 74, 75, 76, 77, 78, 79, 80, 81, 82, 83, 84, 85, 86] h h68 := fl4.trans fj (by decide)
                have s71 : (h68.1 75 12).toInt = (h63.1 75 12).toInt := by rw [(f70 75 (by decide)).1]
                have s72 : (h68.1 17 0).toInt = (h63.1 17 0).toInt := by rw [(f70 17 (by decide)).1]
                show RUN d_X6_tell 101 [(4, .inl x45), (3, .inl x32), (0, .inr (.inr (.inl 75))), (1, .inr (.inr (.inl 16))), (2, .inr (.inr (.inl 70)))] [] h68 _
                refine R_aload_n (k := 0) rfl rfl rfl ?_
                refine R_aload_n (k := 1) rfl rfl rfl ?_
                refine R_aload_n (k := 2) rfl rfl rfl ?_
                refine R_iload_n (k := 3) rfl rfl rfl ?_
                refine R_callV (v := .inr (.inr (.inl 75))) (As := [.inr (.inr (.inl 16)), .inr (.inr (.inl 70)), .inl x32]) (rest := []) rfl mt_6_i81 pp_X6_noteSums (by decide) rfl rfl rfl (Nat.le_of_ble_eq_true rfl) (Nat.le_of_ble_eq_true rfl) ((k_X6_noteSums h68 hI x32 (by omega)).mono (fun r73 h74 p75 => ?_))
                obtain ⟨hJ, fj, ⟨kp76, -⟩, rfl⟩ := p75
                have f77 := fj
                have fr := fr.trans fj (by decide)
                have hI := hJ
                have fl31 : FR [70, 74, 75, 76, 77, 78, 79, 80, 81, 82, 83, 84, 85] h24 h74 := fl31.trans fj (by decide)
                have fl4 : FR [70, 74, 75, 76, 77, 78, 79, 80, 81, 82, 83, 84, 85, 86] h h74 := fl4.trans fj (by decide)
                have s78 : (h74.1 17 0).toInt = (h68.1 17 0).toInt := by rw [(f77 17 (by decide)).1]
                show RUN d_X6_tell 108 [(4, .inl x45), (3, .inl x32), (0, .inr (.inr (.inl 75))), (1, .inr (.inr (.inl 16))), (2, .inr (.inr (.inl 70)))] [] h74 _
                refine N_iinc (a := x32.toInt) (c := 1) (fun w => [(3, .inl w), (4, .inl x45), (0, .inr (.inr (.inl 75))), (1, .inr (.inr (.inl 16))), (2, .inr (.inr (.inl 70)))]) rfl rfl (fun _ => rfl) (by decide) rfl (by decide) (by omega) (fun x79 q80 => ?_)
                refine R_goto 44 rfl rfl ?_
                exact RUN_weak (psub_cons rfl (psub_cons rfl (psub_cons rfl (psub_cons rfl (psub_nil _))))) (ih33 h74 x79 hI fr fl31 (by omega) (by omega) (by omega))
        exact lp29 _ h24 (0 : Int32) hI fr (FR.rf _ _) (by decide) rfl (Nat.lt_succ_self _)
      · refine R_aload_n (k := 0) rfl rfl rfl ?_
        refine R_getf_r (j := 10) rfl ft_6_42 sh_75 rfl ?_
        refine R_iload_n (k := 3) rfl rfl rfl ?_
        refine R_aload_n (k := 2) rfl rfl rfl ?_
        refine R_iload_n (k := 3) rfl rfl rfl ?_
        refine R_callV (v := .inr (.inr (.inl 70))) (As := [.inl x5]) (rest := [.inl x5, .inr (.inr (.inl 86))]) rfl mt_6_i53 pp_X2_loadAt (by decide) rfl rfl rfl (Nat.le_of_ble_eq_true rfl) (Nat.le_of_ble_eq_true rfl) ((k_X2_loadAt h3 hI x5 (by omega)).mono (fun r81 h82 p83 => ?_))
        obtain ⟨rfl, x84, rfl, q85⟩ := p83
        show RUN d_X6_tell 18 [(3, .inl x5), (0, .inr (.inr (.inl 75))), (1, .inr (.inr (.inl 16))), (2, .inr (.inr (.inl 70)))] [.inl x84, .inl x5, .inr (.inr (.inl 86))] h3 _
        refine K_iast (a := x5.toInt) (lo := (-2147483648)) (hi' := 2147483647) rfl sh_86 rfl ⟨by omega, by omega⟩ hI (by decide) rfl (i_rng _) fr (by decide) (fun h86 g87 hI fr => ?_)
        have fl4 : FR [70, 74, 75, 76, 77, 78, 79, 80, 81, 82, 83, 84, 85, 86] h h86 := by rw [g87]; exact FR_wI _ _ fl4 (by decide)
        refine N_iinc (a := x5.toInt) (c := 1) (fun w => [(3, .inl w), (0, .inr (.inr (.inl 75))), (1, .inr (.inr (.inl 16))), (2, .inr (.inr (.inl 70)))]) rfl rfl (fun _ => rfl) (by decide) rfl (by decide) (by omega) (fun x88 q89 => ?_)
        refine R_goto 2 rfl rfl ?_
        exact RUN_weak (psub_cons rfl (psub_cons rfl (psub_cons rfl (psub_cons rfl (psub_nil _))))) (ih6 h86 x88 hI fr fl4 (by omega) (by omega))
  exact lp2 _ h (0 : Int32) hI fr (FR.rf _ _) (by decide) (Nat.lt_succ_self _)
abbrev q_X8_told (h : PH)  : Option PV → PH → Prop := fun r h' => INV h' ∧ FR [0, 70, 71, 72, 73, 74, 75, 76, 77, 78, 79, 80, 81, 82, 83, 84, 85, 86] h h' ∧ (True) ∧ r = some (.inr (.inr (.inl 75)))
set_option maxHeartbeats 4000000 in
set_option maxRecDepth 100000 in
theorem k_X8_told (h : PH) (hI : INV h)  : CALL d_X8_told [.inr (.inr (.inl 0))] h (q_X8_told h) := by
  show RUN d_X8_told 0 [(0, .inr (.inr (.inl 0)))] [] h _
  have fr : FR [0, 70, 71, 72, 73, 74, 75, 76, 77, 78, 79, 80, 81, 82, 83, 84, 85, 86] h h := FR.rf _ _
  refine R_aload_n (k := 0) rfl rfl rfl ?_
  refine R_getf_i (j := 11) rfl ft_8_74 sh_0 rfl ?_
  refine N_if_ne (a := (h.1 0 11).toInt) 31 rfl rfl rfl (fun c1 => ?_) (fun c1 => ?_)
  · refine R_aload_n (k := 0) rfl rfl rfl ?_
    refine R_getf_r (j := 8) rfl ft_8_56 sh_0 rfl ?_
    exact R_aret rfl rfl ⟨hI, fr, trivial, rfl⟩
  · refine R_aload_n (k := 0) rfl rfl rfl ?_
    refine R_callV (v := .inr (.inr (.inl 0))) (As := []) (rest := []) rfl mt_8_i237 pp_X8_lineAsNow (by decide) rfl rfl rfl (Nat.le_of_ble_eq_true rfl) (Nat.le_of_ble_eq_true rfl) ((k_X8_lineAsNow h hI).mono (fun r2 h3 p4 => ?_))
    obtain ⟨hJ, fj, -, rfl⟩ := p4
    have f5 := fj
    have fr := fr.trans fj (by decide)
    have hI := hJ
    have s6 : (h3.1 0 11).toInt = (h.1 0 11).toInt := by rw [(f5 0 (by decide)).1]
    show RUN d_X8_told 11 [(0, .inr (.inr (.inl 0)))] [] h3 _
    refine R_aload_n (k := 0) rfl rfl rfl ?_
    refine R_getf_r (j := 8) rfl ft_8_56 sh_0 rfl ?_
    refine R_aload_n (k := 0) rfl rfl rfl ?_
    refine R_getf_r (j := 3) rfl ft_8_28 sh_0 rfl ?_
    refine R_aload_n (k := 0) rfl rfl rfl ?_
    refine R_getf_r (j := 7) rfl ft_8_49 sh_0 rfl ?_
    refine R_callV (v := .inr (.inr (.inl 75))) (As := [.inr (.inr (.inl 16)), .inr (.inr (.inl 70))]) (rest := []) rfl mt_8_i412 pp_X6_tell (by decide) rfl rfl rfl (Nat.le_of_ble_eq_true rfl) (Nat.le_of_ble_eq_true rfl) ((k_X6_tell h3 hI).mono (fun r7 h8 p9 => ?_))
    obtain ⟨hJ, fj, -, rfl⟩ := p9
    have f10 := fj
    have fr := fr.trans fj (by decide)
    have hI := hJ
    have s11 : (h8.1 0 11).toInt = (h3.1 0 11).toInt := by rw [(f10 0 (by decide)).1]
    show RUN d_X8_told 26 [(0, .inr (.inr (.inl 0)))] [] h8 _
    refine R_aload_n (k := 0) rfl rfl rfl ?_
    refine R_iconst 1 rfl rfl ?_
    refine K_putz (j := 11) rfl ft_8_74 sh_0 rfl (by decide) hI (by decide) rfl fr (by decide) (fun h12 g13 hI fr => ?_)
    have s14 : (h12.1 0 11).toInt = 1 := by rw [g13, wI_is]; rfl
    refine R_aload_n (k := 0) rfl rfl rfl ?_
    refine R_getf_r (j := 8) rfl ft_8_56 sh_0 rfl ?_
    exact R_aret rfl rfl ⟨hI, fr, trivial, rfl⟩
abbrev q_X8_holds (h : PH) (a0 : Int32) (a1 : Int32) : Option PV → PH → Prop := fun r h' => INV h' ∧ FR [0, 70, 71, 72, 73, 74, 75, 76, 77, 78, 79, 80, 81, 82, 83, 84, 85, 86] h h' ∧ (True) ∧ ∃ z : Int32, r = some (.inl z) ∧ ((True))
set_option maxHeartbeats 4000000 in
set_option maxRecDepth 100000 in
theorem k_X8_holds (h : PH) (hI : INV h) (a0 : Int32) (a1 : Int32) : CALL d_X8_holds [.inr (.inr (.inl 0)), .inl a0, .inl a1] h (q_X8_holds h a0 a1) := by
  show RUN d_X8_holds 0 [(0, .inr (.inr (.inl 0))), (1, .inl a0), (2, .inl a1)] [] h _
  have b1 := i_rng a0
  have b2 := i_rng a1
  have fr : FR [0, 70, 71, 72, 73, 74, 75, 76, 77, 78, 79, 80, 81, 82, 83, 84, 85, 86] h h := FR.rf _ _
  refine R_aload_n (k := 0) rfl rfl rfl ?_
  refine R_getf_r (j := 3) rfl ft_8_28 sh_0 rfl ?_
  refine R_iload_n (k := 1) rfl rfl rfl ?_
  have b3 : (0 : Int) ≤ (h.1 17 5).toInt ∧ (h.1 17 5).toInt ≤ 6 := hI.1 17 5
  refine R_callV (v := .inr (.inr (.inl 16))) (As := [.inl a0]) (rest := []) rfl mt_8_i119 pp_X1_hasHand (by decide) rfl rfl rfl (Nat.le_of_ble_eq_true rfl) (Nat.le_of_ble_eq_true rfl) ((k_X1_hasHand h hI a0).mono (fun r4 h5 p6 => ?_))
  obtain ⟨rfl, x7, rfl, q8 | q8 | q8⟩ := p6
  · show RUN d_X8_holds 8 [(0, .inr (.inr (.inl 0))), (1, .inl a0), (2, .inl a1)] [.inl x7] h _
    refine N_if_eq (a := x7.toInt) 22 rfl rfl rfl (fun c9 => ?_) (fun c9 => ?_)
    · refine R_bipush (-2) rfl rfl ?_
      exact R_iret rfl rfl rfl ⟨hI, fr, trivial, _, rfl, trivial⟩
    · exfalso; omega
  · show RUN d_X8_holds 8 [(0, .inr (.inr (.inl 0))), (1, .inl a0), (2, .inl a1)] [.inl x7] h _
    refine N_if_eq (a := x7.toInt) 22 rfl rfl rfl (fun c10 => ?_) (fun c10 => ?_)
    · refine R_bipush (-2) rfl rfl ?_
      exact R_iret rfl rfl rfl ⟨hI, fr, trivial, _, rfl, trivial⟩
    · exfalso; omega
  · show RUN d_X8_holds 8 [(0, .inr (.inr (.inl 0))), (1, .inl a0), (2, .inl a1)] [.inl x7] h _
    refine N_if_eq (a := x7.toInt) 22 rfl rfl rfl (fun c11 => ?_) (fun c11 => ?_)
    · exfalso; omega
    · refine R_aload_n (k := 0) rfl rfl rfl ?_
      refine R_getf_r (j := 3) rfl ft_8_28 sh_0 rfl ?_
      refine R_iload_n (k := 2) rfl rfl rfl ?_
      have b12 : (0 : Int) ≤ (h.1 17 0).toInt ∧ (h.1 17 0).toInt ≤ 60 := hI.1 17 0
      refine R_callV (v := .inr (.inr (.inl 16))) (As := [.inl a1]) (rest := []) rfl mt_8_i150 pp_X1_hasSecond (by decide) rfl rfl rfl (Nat.le_of_ble_eq_true rfl) (Nat.le_of_ble_eq_true rfl) ((k_X1_hasSecond h hI a1).mono (fun r13 h14 p15 => ?_))
      obtain ⟨rfl, x16, rfl, q17 | q17 | q17⟩ := p15
      · show RUN d_X8_holds 19 [(0, .inr (.inr (.inl 0))), (1, .inl a0), (2, .inl a1)] [.inl x16] h _
        refine N_if_ne (a := x16.toInt) 25 rfl rfl rfl (fun c18 => ?_) (fun c18 => ?_)
        · exfalso; omega
        · refine R_bipush (-2) rfl rfl ?_
          exact R_iret rfl rfl rfl ⟨hI, fr, trivial, _, rfl, trivial⟩
      · show RUN d_X8_holds 19 [(0, .inr (.inr (.inl 0))), (1, .inl a0), (2, .inl a1)] [.inl x16] h _
        refine N_if_ne (a := x16.toInt) 25 rfl rfl rfl (fun c19 => ?_) (fun c19 => ?_)
        · exfalso; omega
        · refine R_bipush (-2) rfl rfl ?_
          exact R_iret rfl rfl rfl ⟨hI, fr, trivial, _, rfl, trivial⟩
      · show RUN d_X8_holds 19 [(0, .inr (.inr (.inl 0))), (1, .inl a0), (2, .inl a1)] [.inl x16] h _
        refine N_if_ne (a := x16.toInt) 25 rfl rfl rfl (fun c20 => ?_) (fun c20 => ?_)
        · refine R_aload_n (k := 0) rfl rfl rfl ?_
          refine R_callV (v := .inr (.inr (.inl 0))) (As := []) (rest := []) rfl mt_8_i153 pp_X8_told (by decide) rfl rfl rfl (Nat.le_of_ble_eq_true rfl) (Nat.le_of_ble_eq_true rfl) ((k_X8_told h hI).mono (fun r21 h22 p23 => ?_))
          obtain ⟨hJ, fj, -, rfl⟩ := p23
          have f24 := fj
          have fr := fr.trans fj (by decide)
          have hI := hJ
          have s25 : (h22.1 17 5).toInt = (h.1 17 5).toInt := by rw [(f24 17 (by decide)).1]
          have s26 : (h22.1 17 0).toInt = (h.1 17 0).toInt := by rw [(f24 17 (by decide)).1]
          show RUN d_X8_holds 29 [(0, .inr (.inr (.inl 0))), (1, .inl a0), (2, .inl a1)] [.inr (.inr (.inl 75))] h22 _
          refine R_getf_r (j := 1) rfl ft_8_157 sh_75 rfl ?_
          refine R_iload_n (k := 2) rfl rfl rfl ?_
          refine R_iald rfl sh_77 ⟨by omega, by omega⟩ ?_
          refine N_any (fun x27 => ?_)
          refine N_i2l rfl (fun w28 q29 => ?_)
          refine R_iload_n (k := 1) rfl rfl rfl ?_
          refine R_callS (As := [.inr (.inl w28), .inl a0]) (rest := []) rfl mt_8_i160 (by decide) pp_X8_hasBit (by decide) rfl rfl (Nat.le_of_ble_eq_true rfl) (Nat.le_of_ble_eq_true rfl) ((k_X8_hasBit h22 hI w28 a0).mono (fun r30 h31 p32 => ?_))
          obtain ⟨rfl, x33, rfl, q34 | q34⟩ := p32
          · show RUN d_X8_holds 39 [(0, .inr (.inr (.inl 0))), (1, .inl a0), (2, .inl a1)] [.inl x33] h22 _
            refine N_if_eq (a := x33.toInt) 54 rfl rfl rfl (fun c35 => ?_) (fun c35 => ?_)
            · refine R_iconst (-1) rfl rfl ?_
              exact R_iret rfl rfl rfl ⟨hI, fr, trivial, _, rfl, trivial⟩
            · exfalso; omega
          · show RUN d_X8_holds 39 [(0, .inr (.inr (.inl 0))), (1, .inl a0), (2, .inl a1)] [.inl x33] h22 _
            refine N_if_eq (a := x33.toInt) 54 rfl rfl rfl (fun c36 => ?_) (fun c36 => ?_)
            · exfalso; omega
            · refine R_aload_n (k := 0) rfl rfl rfl ?_
              refine R_getf_r (j := 8) rfl ft_8_56 sh_0 rfl ?_
              refine R_getf_r (j := 10) rfl ft_8_164 sh_75 rfl ?_
              refine R_iload_n (k := 1) rfl rfl rfl ?_
              refine R_iald rfl sh_86 ⟨by omega, by omega⟩ ?_
              refine N_any (fun x37 => ?_)
              refine R_goto 55 rfl rfl ?_
              exact R_iret rfl rfl rfl ⟨hI, fr, trivial, _, rfl, trivial⟩
        · exfalso; omega
abbrev q_X9_isBrigade (h : PH)  : Option PV → PH → Prop := fun r h' => h = h' ∧ ∃ z : Int32, r = some (.inl z) ∧ ((z.toInt = 0 ∧ (h.1 97 10).toInt ≤ 0) ∨ (z.toInt = 1 ∧ 1 ≤ (h.1 97 0).toInt ∧ (h.1 97 0).toInt ≤ 60 ∧ 1 ≤ (h.1 97 10).toInt))
set_option maxHeartbeats 4000000 in
set_option maxRecDepth 100000 in
theorem k_X9_isBrigade (h : PH) (hI : INV h)  : CALL d_X9_isBrigade [.inr (.inr (.inl 96))] h (q_X9_isBrigade h) := by
  show RUN d_X9_isBrigade 0 [(0, .inr (.inr (.inl 96)))] [] h _
  refine R_aload_n (k := 0) rfl rfl rfl ?_
  refine R_getf_r (j := 1) rfl ft_9_9 sh_96 rfl ?_
  refine R_bipush 10 rfl rfl ?_
  refine R_iald rfl sh_97 (by decide) ?_
  have b1 : (0 : Int) ≤ (h.1 97 0).toInt ∧ (h.1 97 0).toInt ≤ 60 := hI.1 97 0
  have e2 : 0 < (h.1 97 10).toInt → 1 ≤ (h.1 97 0).toInt := hI.2.2.2.2.2.1.2.1
  show RUN d_X9_isBrigade 7 [(0, .inr (.inr (.inl 96)))] [.inl (h.1 97 10)] h _
  refine N_if_le (a := (h.1 97 10).toInt) 14 rfl rfl rfl (fun c3 => ?_) (fun c3 => ?_)
  · refine R_iconst 0 rfl rfl ?_
    exact R_iret rfl rfl rfl ⟨rfl, _, rfl, by rw [show (0 : Int32).toInt = 0 from rfl]; omega⟩
  · refine R_iconst 1 rfl rfl ?_
    refine R_goto 15 rfl rfl ?_
    exact R_iret rfl rfl rfl ⟨rfl, _, rfl, by rw [show (1 : Int32).toInt = 1 from rfl]; omega⟩
abbrev q_X9_last (h : PH)  : Option PV → PH → Prop := fun r h' => h = h' ∧ ∃ z : Int32, r = some (.inl z) ∧ (((-1) ≤ z.toInt ∧ z.toInt ≤ 59 ∧ z.toInt = (h.1 97 0).toInt + (-1)))
set_option maxHeartbeats 4000000 in
set_option maxRecDepth 100000 in
theorem k_X9_last (h : PH) (hI : INV h)  : CALL d_X9_last [.inr (.inr (.inl 96))] h (q_X9_last h) := by
  show RUN d_X9_last 0 [(0, .inr (.inr (.inl 96)))] [] h _
  refine R_aload_n (k := 0) rfl rfl rfl ?_
  refine R_getf_r (j := 1) rfl ft_9_9 sh_96 rfl ?_
  refine R_iconst 0 rfl rfl ?_
  refine R_iald rfl sh_97 (by decide) ?_
  have b1 : (0 : Int) ≤ (h.1 97 0).toInt ∧ (h.1 97 0).toInt ≤ 60 := hI.1 97 0
  show RUN d_X9_last 6 [(0, .inr (.inr (.inl 96)))] [.inl (h.1 97 0)] h _
  refine R_iconst 1 rfl rfl ?_
  refine N_isub (a := (h.1 97 0).toInt) (b := 1) rfl rfl (by decide) (by omega) (fun x2 q3 => ?_)
  exact R_iret rfl rfl rfl ⟨rfl, _, rfl, by omega⟩
abbrev q_X9_startLine (h : PH)  : Option PV → PH → Prop := fun r h' => INV h' ∧ FR [96, 107, 108, 109, 117, 118] h h' ∧ ((h'.1 96 19).toInt = (h.1 96 19).toInt ∧ (h'.1 96 42).toInt = (h.1 96 42).toInt ∧ (h'.1 96 18).toInt = (h.1 96 18).toInt ∧ (h'.1 96 20).toInt = (h.1 96 20).toInt ∧ (h'.1 96 46).toInt = (h.1 96 46).toInt ∧ (h'.1 96 44).toInt = (h.1 96 44).toInt ∧ (h'.1 96 47).toInt = (h.1 96 47).toInt ∧ (h'.1 96 48).toInt = (h.1 96 48).toInt ∧ (h'.1 96 51).toInt = (h.1 96 51).toInt ∧ True) ∧ r = none
set_option maxHeartbeats 4000000 in
set_option maxRecDepth 100000 in
theorem k_X9_startLine (h : PH) (hI : INV h)  : CALL d_X9_startLine [.inr (.inr (.inl 96))] h (q_X9_startLine h) := by
  show RUN d_X9_startLine 0 [(0, .inr (.inr (.inl 96)))] [] h _
  have fr : FR [96, 107, 108, 109, 117, 118] h h := FR.rf _ _
  have b1 : (0 : Int) ≤ (h.1 96 18).toInt ∧ (h.1 96 18).toInt ≤ 6 := hI.1 96 18
  have b2 : (0 : Int) ≤ (h.1 96 51).toInt ∧ (h.1 96 51).toInt ≤ 720 := hI.1 96 51
  refine R_iconst 0 rfl rfl ?_
  refine R_istore_n (k := 1) rfl [(1, .inl 0), (0, .inr (.inr (.inl 96)))] rfl rfl (by decide) ?_
  have lp4 : ∀ (n3 : Nat) (h5 : PH) (x7 : Int32), INV h5 → FR [96, 107, 108, 109, 117, 118] h h5 → FR [96, 107, 108, 109, 117, 118] h h5 → 0 ≤ x7.toInt ∧ x7.toInt ≤ 6 → (h5.1 96 19).toInt = (h.1 96 19).toInt → (h5.1 96 42).toInt = (h.1 96 42).toInt → (h5.1 96 18).toInt = (h.1 96 18).toInt → (h5.1 96 20).toInt = (h.1 96 20).toInt → (h5.1 96 46).toInt = (h.1 96 46).toInt → (h5.1 96 44).toInt = (h.1 96 44).toInt → (h5.1 96 47).toInt = (h.1 96 47).toInt → (h5.1 96 48).toInt = (h.1 96 48).toInt → (h5.1 96 51).toInt = (h.1 96 51).toInt → (6 - x7.toInt).toNat < n3 → RUN d_X9_startLine 2 [(1, .inl x7), (0, .inr (.inr (.inl 96)))] [] h5 (q_X9_startLine h) := by
    intro n3
    induction n3 with
    | zero => intro h5 x7 m9 m10 m11 m12 m13 m14 m15 m16 m17 m18 m19 m20 m21 hz; exact absurd hz (Nat.not_lt_zero _)
    | succ n3 ih8 =>
      intro h5 x7 hI fr fl6 m12 m13 m14 m15 m16 m17 m18 m19 m20 m21 hz
      refine R_iload_n (k := 1) rfl rfl rfl ?_
      refine R_bipush 6 rfl rfl ?_
      refine N_icmp_ge (a := x7.toInt) (b := 6) 42 rfl rfl rfl (by decide) (fun c22 => ?_) (fun c22 => ?_)
      · refine R_iconst 0 rfl rfl ?_
        refine R_istore_n (k := 1) rfl [(1, .inl 0), (0, .inr (.inr (.inl 96)))] rfl rfl (by decide) ?_
        have lp24 : ∀ (n23 : Nat) (h25 : PH) (x27 : Int32), INV h25 → FR [96, 107, 108, 109, 117, 118] h h25 → FR [96, 109] h5 h25 → 0 ≤ x27.toInt ∧ x27.toInt ≤ 23 → (h25.1 96 19).toInt = (h5.1 96 19).toInt → (h25.1 96 42).toInt = (h5.1 96 42).toInt → (h25.1 96 18).toInt = (h5.1 96 18).toInt → (h25.1 96 20).toInt = (h5.1 96 20).toInt → (h25.1 96 46).toInt = (h5.1 96 46).toInt → (h25.1 96 44).toInt = (h5.1 96 44).toInt → (h25.1 96 47).toInt = (h5.1 96 47).toInt → (h25.1 96 48).toInt = (h5.1 96 48).toInt → (h25.1 96 51).toInt = (h5.1 96 51).toInt → (23 - x27.toInt).toNat < n23 → RUN d_X9_startLine 44 [(1, .inl x27), (0, .inr (.inr (.inl 96)))] [] h25 (q_X9_startLine h) := by
          intro n23
          induction n23 with
          | zero => intro h25 x27 m29 m30 m31 m32 m33 m34 m35 m36 m37 m38 m39 m40 m41 hz; exact absurd hz (Nat.not_lt_zero _)
          | succ n23 ih28 =>
            intro h25 x27 hI fr fl26 m32 m33 m34 m35 m36 m37 m38 m39 m40 m41 hz
            have fl6 : FR [96, 107, 108, 109, 117, 118] h h25 := fl6.trans fl26 (by decide)
            refine R_iload_n (k := 1) rfl rfl rfl ?_
            refine R_bipush 23 rfl rfl ?_
            refine N_icmp_ge (a := x27.toInt) (b := 23) 63 rfl rfl rfl (by decide) (fun c42 => ?_) (fun c42 => ?_)
            · refine R_aload_n (k := 0) rfl rfl rfl ?_
              refine R_getf_r (j := 24) rfl ft_9_52 sh_96 rfl ?_
              refine R_iconst 0 rfl rfl ?_
              refine R_aload_n (k := 0) rfl rfl rfl ?_
              refine R_getf_i (j := 19) rfl ft_9_256 sh_96 rfl ?_
              refine K_iast (a := 0) (lo := (-2147483648)) (hi' := 2147483647) rfl sh_109 (by decide) (by decide) hI (by decide) rfl (i_rng _) fr (by decide) (fun h43 g44 hI fr => ?_)
              have fl26 : FR [96, 109] h5 h43 := by rw [g44]; exact FR_wI _ _ fl26 (by decide)
              have fl6 : FR [96, 107, 108, 109, 117, 118] h h43 := by rw [g44]; exact FR_wI _ _ fl6 (by decide)
              have s45 : (h43.1 96 19).toInt = (h25.1 96 19).toInt := by rw [g44, wI_ne _ _ _ (by decide)]
              have s46 : (h43.1 96 42).toInt = (h25.1 96 42).toInt := by rw [g44, wI_ne _ _ _ (by decide)]
              have s47 : (h43.1 96 18).toInt = (h25.1 96 18).toInt := by rw [g44, wI_ne _ _ _ (by decide)]
              have s48 : (h43.1 96 20).toInt = (h25.1 96 20).toInt := by rw [g44, wI_ne _ _ _ (by decide)]
              have s49 : (h43.1 96 46).toInt = (h25.1 96 46).toInt := by rw [g44, wI_ne _ _ _ (by decide)]
              have s50 : (h43.1 96 44).toInt = (h25.1 96 44).toInt := by rw [g44, wI_ne _ _ _ (by decide)]
              have s51 : (h43.1 96 47).toInt = (h25.1 96 47).toInt := by rw [g44, wI_ne _ _ _ (by decide)]
              have s52 : (h43.1 96 48).toInt = (h25.1 96 48).toInt := by rw [g44, wI_ne _ _ _ (by decide)]
              have s53 : (h43.1 96 51).toInt = (h25.1 96 51).toInt := by rw [g44, wI_ne _ _ _ (by decide)]
              have s54 : (h43.1 109 0).toInt = (h25.1 96 19).toInt := by rw [g44, show (0 : Int32).toNatClampNeg = 0 from rfl, wI_is]
              refine R_aload_n (k := 0) rfl rfl rfl ?_
              refine R_iconst 0 rfl rfl ?_
              refine K_putf (j := 34) (lo := (-2147483648)) (hi' := 2147483647) rfl ft_9_262 sh_96 rfl hI (by decide) rfl (by decide) fr (by decide) (fun h55 g56 hI fr => ?_)
              have fl26 : FR [96, 109] h5 h55 := by rw [g56]; exact FR_wI _ _ fl26 (by decide)
              have fl6 : FR [96, 107, 108, 109, 117, 118] h h55 := by rw [g56]; exact FR_wI _ _ fl6 (by decide)
              have s57 : (h55.1 96 19).toInt = (h43.1 96 19).toInt := by rw [g56, wI_at (by decide)]
              have s58 : (h55.1 96 42).toInt = (h43.1 96 42).toInt := by rw [g56, wI_at (by decide)]
              have s59 : (h55.1 96 18).toInt = (h43.1 96 18).toInt := by rw [g56, wI_at (by decide)]
              have s60 : (h55.1 96 20).toInt = (h43.1 96 20).toInt := by rw [g56, wI_at (by decide)]
              have s61 : (h55.1 96 46).toInt = (h43.1 96 46).toInt := by rw [g56, wI_at (by decide)]
              have s62 : (h55.1 96 44).toInt = (h43.1 96 44).toInt := by rw [g56, wI_at (by decide)]
              have s63 : (h55.1 96 47).toInt = (h43.1 96 47).toInt := by rw [g56, wI_at (by decide)]
              have s64 : (h55.1 96 48).toInt = (h43.1 96 48).toInt := by rw [g56, wI_at (by decide)]
              have s65 : (h55.1 96 51).toInt = (h43.1 96 51).toInt := by rw [g56, wI_at (by decide)]
              have s66 : (h55.1 109 0).toInt = (h43.1 109 0).toInt := by rw [g56, wI_ne _ _ _ (by decide)]
              have s67 : (h55.1 96 34).toInt = 0 := by rw [g56, wI_is]; rfl
              refine R_aload_n (k := 0) rfl rfl rfl ?_
              refine R_iconst 0 rfl rfl ?_
              refine K_putf (j := 35) (lo := (-2147483648)) (hi' := 2147483647) rfl ft_9_265 sh_96 rfl hI (by decide) rfl (by decide) fr (by decide) (fun h68 g69 hI fr => ?_)
              have fl26 : FR [96, 109] h5 h68 := by rw [g69]; exact FR_wI _ _ fl26 (by decide)
              have fl6 : FR [96, 107, 108, 109, 117, 118] h h68 := by rw [g69]; exact FR_wI _ _ fl6 (by decide)
              have s70 : (h68.1 96 19).toInt = (h55.1 96 19).toInt := by rw [g69, wI_at (by decide)]
              have s71 : (h68.1 96 42).toInt = (h55.1 96 42).toInt := by rw [g69, wI_at (by decide)]
              have s72 : (h68.1 96 18).toInt = (h55.1 96 18).toInt := by rw [g69, wI_at (by decide)]
              have s73 : (h68.1 96 20).toInt = (h55.1 96 20).toInt := by rw [g69, wI_at (by decide)]
              have s74 : (h68.1 96 46).toInt = (h55.1 96 46).toInt := by rw [g69, wI_at (by decide)]
              have s75 : (h68.1 96 44).toInt = (h55.1 96 44).toInt := by rw [g69, wI_at (by decide)]
              have s76 : (h68.1 96 47).toInt = (h55.1 96 47).toInt := by rw [g69, wI_at (by decide)]
              have s77 : (h68.1 96 48).toInt = (h55.1 96 48).toInt := by rw [g69, wI_at (by decide)]
              have s78 : (h68.1 96 51).toInt = (h55.1 96 51).toInt := by rw [g69, wI_at (by decide)]
              have s79 : (h68.1 109 0).toInt = (h55.1 109 0).toInt := by rw [g69, wI_ne _ _ _ (by decide)]
              have s80 : (h68.1 96 34).toInt = (h55.1 96 34).toInt := by rw [g69, wI_at (by decide)]
              have s81 : (h68.1 96 35).toInt = 0 := by rw [g69, wI_is]; rfl
              refine R_aload_n (k := 0) rfl rfl rfl ?_
              refine R_iconst 0 rfl rfl ?_
              refine K_putf (j := 36) (lo := (-2147483648)) (hi' := 2147483647) rfl ft_9_268 sh_96 rfl hI (by decide) rfl (by decide) fr (by decide) (fun h82 g83 hI fr => ?_)
              have fl26 : FR [96, 109] h5 h82 := by rw [g83]; exact FR_wI _ _ fl26 (by decide)
              have fl6 : FR [96, 107, 108, 109, 117, 118] h h82 := by rw [g83]; exact FR_wI _ _ fl6 (by decide)
              have s84 : (h82.1 96 19).toInt = (h68.1 96 19).toInt := by rw [g83, wI_at (by decide)]
              have s85 : (h82.1 96 42).toInt = (h68.1 96 42).toInt := by rw [g83, wI_at (by decide)]
              have s86 : (h82.1 96 18).toInt = (h68.1 96 18).toInt := by rw [g83, wI_at (by decide)]
              have s87 : (h82.1 96 20).toInt = (h68.1 96 20).toInt := by rw [g83, wI_at (by decide)]
              have s88 : (h82.1 96 46).toInt = (h68.1 96 46).toInt := by rw [g83, wI_at (by decide)]
              have s89 : (h82.1 96 44).toInt = (h68.1 96 44).toInt := by rw [g83, wI_at (by decide)]
              have s90 : (h82.1 96 47).toInt = (h68.1 96 47).toInt := by rw [g83, wI_at (by decide)]
              have s91 : (h82.1 96 48).toInt = (h68.1 96 48).toInt := by rw [g83, wI_at (by decide)]
              have s92 : (h82.1 96 51).toInt = (h68.1 96 51).toInt := by rw [g83, wI_at (by decide)]
              have s93 : (h82.1 109 0).toInt = (h68.1 109 0).toInt := by rw [g83, wI_ne _ _ _ (by decide)]
              have s94 : (h82.1 96 34).toInt = (h68.1 96 34).toInt := by rw [g83, wI_at (by decide)]
              have s95 : (h82.1 96 35).toInt = (h68.1 96 35).toInt := by rw [g83, wI_at (by decide)]
              have s96 : (h82.1 96 36).toInt = 0 := by rw [g83, wI_is]; rfl
              exact R_vret rfl rfl ⟨hI, fr, ⟨by omega, by omega, by omega, by omega, by omega, by omega, by omega, by omega, by omega, trivial⟩, rfl⟩
            · refine R_aload_n (k := 0) rfl rfl rfl ?_
              refine R_getf_r (j := 24) rfl ft_9_52 sh_96 rfl ?_
              refine R_iload_n (k := 1) rfl rfl rfl ?_
              refine R_iconst 0 rfl rfl ?_
              refine K_iast (a := x27.toInt) (lo := (-2147483648)) (hi' := 2147483647) rfl sh_109 rfl ⟨by omega, by omega⟩ hI (by decide) rfl (by decide) fr (by decide) (fun h97 g98 hI fr => ?_)
              have fl26 : FR [96, 109] h5 h97 := by rw [g98]; exact FR_wI _ _ fl26 (by decide)
              have fl6 : FR [96, 107, 108, 109, 117, 118] h h97 := by rw [g98]; exact FR_wI _ _ fl6 (by decide)
              have s99 : (h97.1 96 19).toInt = (h25.1 96 19).toInt := by rw [g98, wI_ne _ _ _ (by decide)]
              have s100 : (h97.1 96 42).toInt = (h25.1 96 42).toInt := by rw [g98, wI_ne _ _ _ (by decide)]
              have s101 : (h97.1 96 18).toInt = (h25.1 96 18).toInt := by rw [g98, wI_ne _ _ _ (by decide)]
              have s102 : (h97.1 96 20).toInt = (h25.1 96 20).toInt := by rw [g98, wI_ne _ _ _ (by decide)]
              have s103 : (h97.1 96 46).toInt = (h25.1 96 46).toInt := by rw [g98, wI_ne _ _ _ (by decide)]
              have s104 : (h97.1 96 44).toInt = (h25.1 96 44).toInt := by rw [g98, wI_ne _ _ _ (by decide)]
              have s105 : (h97.1 96 47).toInt = (h25.1 96 47).toInt := by rw [g98, wI_ne _ _ _ (by decide)]
              have s106 : (h97.1 96 48).toInt = (h25.1 96 48).toInt := by rw [g98, wI_ne _ _ _ (by decide)]
              have s107 : (h97.1 96 51).toInt = (h25.1 96 51).toInt := by rw [g98, wI_ne _ _ _ (by decide)]
              refine N_iinc (a := x27.toInt) (c := 1) (fun w => [(1, .inl w), (0, .inr (.inr (.inl 96)))]) rfl rfl (fun _ => rfl) (by decide) rfl (by decide) (by omega) (fun x108 q109 => ?_)
              refine R_goto 44 rfl rfl ?_
              exact RUN_weak (psub_cons rfl (psub_cons rfl (psub_nil _))) (ih28 h97 x108 hI fr fl26 (by omega) (by omega) (by omega) (by omega) (by omega) (by omega) (by omega) (by omega) (by omega) (by omega) (by omega))
        exact lp24 _ h5 (0 : Int32) hI fr (FR.rf _ _) (by decide) rfl rfl rfl rfl rfl rfl rfl rfl rfl (Nat.lt_succ_self _)
      · refine R_aload_n (k := 0) rfl rfl rfl ?_
        refine R_getf_r (j := 22) rfl ft_9_46 sh_96 rfl ?_
        refine R_iload_n (k := 1) rfl rfl rfl ?_
        refine R_iconst (-1) rfl rfl ?_
        refine K_iast (a := x7.toInt) (lo := (-2147483648)) (hi' := 2147483647) rfl sh_107 rfl ⟨by omega, by omega⟩ hI (by decide) rfl (by decide) fr (by decide) (fun h110 g111 hI fr => ?_)
        have fl6 : FR [96, 107, 108, 109, 117, 118] h h110 := by rw [g111]; exact FR_wI _ _ fl6 (by decide)
        have s112 : (h110.1 96 19).toInt = (h5.1 96 19).toInt := by rw [g111, wI_ne _ _ _ (by decide)]
        have s113 : (h110.1 96 42).toInt = (h5.1 96 42).toInt := by rw [g111, wI_ne _ _ _ (by decide)]
        have s114 : (h110.1 96 18).toInt = (h5.1 96 18).toInt := by rw [g111, wI_ne _ _ _ (by decide)]
        have s115 : (h110.1 96 20).toInt = (h5.1 96 20).toInt := by rw [g111, wI_ne _ _ _ (by decide)]
        have s116 : (h110.1 96 46).toInt = (h5.1 96 46).toInt := by rw [g111, wI_ne _ _ _ (by decide)]
        have s117 : (h110.1 96 44).toInt = (h5.1 96 44).toInt := by rw [g111, wI_ne _ _ _ (by decide)]
        have s118 : (h110.1 96 47).toInt = (h5.1 96 47).toInt := by rw [g111, wI_ne _ _ _ (by decide)]
        have s119 : (h110.1 96 48).toInt = (h5.1 96 48).toInt := by rw [g111, wI_ne _ _ _ (by decide)]
        have s120 : (h110.1 96 51).toInt = (h5.1 96 51).toInt := by rw [g111, wI_ne _ _ _ (by decide)]
        refine R_aload_n (k := 0) rfl rfl rfl ?_
        refine R_getf_r (j := 23) rfl ft_9_49 sh_96 rfl ?_
        refine R_iload_n (k := 1) rfl rfl rfl ?_
        refine R_iconst 0 rfl rfl ?_
        refine K_iast (a := x7.toInt) (lo := (-2147483648)) (hi' := 2147483647) rfl sh_108 rfl ⟨by omega, by omega⟩ hI (by decide) rfl (by decide) fr (by decide) (fun h121 g122 hI fr => ?_)
        have fl6 : FR [96, 107, 108, 109, 117, 118] h h121 := by rw [g122]; exact FR_wI _ _ fl6 (by decide)
        have s123 : (h121.1 96 19).toInt = (h110.1 96 19).toInt := by rw [g122, wI_ne _ _ _ (by decide)]
        have s124 : (h121.1 96 42).toInt = (h110.1 96 42).toInt := by rw [g122, wI_ne _ _ _ (by decide)]
        have s125 : (h121.1 96 18).toInt = (h110.1 96 18).toInt := by rw [g122, wI_ne _ _ _ (by decide)]
        have s126 : (h121.1 96 20).toInt = (h110.1 96 20).toInt := by rw [g122, wI_ne _ _ _ (by decide)]
        have s127 : (h121.1 96 46).toInt = (h110.1 96 46).toInt := by rw [g122, wI_ne _ _ _ (by decide)]
        have s128 : (h121.1 96 44).toInt = (h110.1 96 44).toInt := by rw [g122, wI_ne _ _ _ (by decide)]
        have s129 : (h121.1 96 47).toInt = (h110.1 96 47).toInt := by rw [g122, wI_ne _ _ _ (by decide)]
        have s130 : (h121.1 96 48).toInt = (h110.1 96 48).toInt := by rw [g122, wI_ne _ _ _ (by decide)]
        have s131 : (h121.1 96 51).toInt = (h110.1 96 51).toInt := by rw [g122, wI_ne _ _ _ (by decide)]
        refine R_aload_n (k := 0) rfl rfl rfl ?_
        refine R_getf_r (j := 32) rfl ft_9_76 sh_96 rfl ?_
        refine R_iload_n (k := 1) rfl rfl rfl ?_
        refine R_iconst 0 rfl rfl ?_
        refine K_iast (a := x7.toInt) (lo := (-2147483648)) (hi' := 2147483647) rfl sh_117 rfl ⟨by omega, by omega⟩ hI (by decide) rfl (by decide) fr (by decide) (fun h132 g133 hI fr => ?_)
        have fl6 : FR [96, 107, 108, 109, 117, 118] h h132 := by rw [g133]; exact FR_wI _ _ fl6 (by decide)
        have s134 : (h132.1 96 19).toInt = (h121.1 96 19).toInt := by rw [g133, wI_ne _ _ _ (by decide)]
        have s135 : (h132.1 96 42).toInt = (h121.1 96 42).toInt := by rw [g133, wI_ne _ _ _ (by decide)]
        have s136 : (h132.1 96 18).toInt = (h121.1 96 18).toInt := by rw [g133, wI_ne _ _ _ (by decide)]
        have s137 : (h132.1 96 20).toInt = (h121.1 96 20).toInt := by rw [g133, wI_ne _ _ _ (by decide)]
        have s138 : (h132.1 96 46).toInt = (h121.1 96 46).toInt := by rw [g133, wI_ne _ _ _ (by decide)]
        have s139 : (h132.1 96 44).toInt = (h121.1 96 44).toInt := by rw [g133, wI_ne _ _ _ (by decide)]
        have s140 : (h132.1 96 47).toInt = (h121.1 96 47).toInt := by rw [g133, wI_ne _ _ _ (by decide)]
        have s141 : (h132.1 96 48).toInt = (h121.1 96 48).toInt := by rw [g133, wI_ne _ _ _ (by decide)]
        have s142 : (h132.1 96 51).toInt = (h121.1 96 51).toInt := by rw [g133, wI_ne _ _ _ (by decide)]
        refine R_aload_n (k := 0) rfl rfl rfl ?_
        refine R_getf_r (j := 33) rfl ft_9_79 sh_96 rfl ?_
        refine R_iload_n (k := 1) rfl rfl rfl ?_
        refine R_iconst 0 rfl rfl ?_
        refine K_iast (a := x7.toInt) (lo := (-2147483648)) (hi' := 2147483647) rfl sh_118 rfl ⟨by omega, by omega⟩ hI (by decide) rfl (by decide) fr (by decide) (fun h143 g144 hI fr => ?_)
        have fl6 : FR [96, 107, 108, 109, 117, 118] h h143 := by rw [g144]; exact FR_wI _ _ fl6 (by decide)
        have s145 : (h143.1 96 19).toInt = (h132.1 96 19).toInt := by rw [g144, wI_ne _ _ _ (by decide)]
        have s146 : (h143.1 96 42).toInt = (h132.1 96 42).toInt := by rw [g144, wI_ne _ _ _ (by decide)]
        have s147 : (h143.1 96 18).toInt = (h132.1 96 18).toInt := by rw [g144, wI_ne _ _ _ (by decide)]
        have s148 : (h143.1 96 20).toInt = (h132.1 96 20).toInt := by rw [g144, wI_ne _ _ _ (by decide)]
        have s149 : (h143.1 96 46).toInt = (h132.1 96 46).toInt := by rw [g144, wI_ne _ _ _ (by decide)]
        have s150 : (h143.1 96 44).toInt = (h132.1 96 44).toInt := by rw [g144, wI_ne _ _ _ (by decide)]
        have s151 : (h143.1 96 47).toInt = (h132.1 96 47).toInt := by rw [g144, wI_ne _ _ _ (by decide)]
        have s152 : (h143.1 96 48).toInt = (h132.1 96 48).toInt := by rw [g144, wI_ne _ _ _ (by decide)]
        have s153 : (h143.1 96 51).toInt = (h132.1 96 51).toInt := by rw [g144, wI_ne _ _ _ (by decide)]
        refine N_iinc (a := x7.toInt) (c := 1) (fun w => [(1, .inl w), (0, .inr (.inr (.inl 96)))]) rfl rfl (fun _ => rfl) (by decide) rfl (by decide) (by omega) (fun x154 q155 => ?_)
        refine R_goto 2 rfl rfl ?_
        exact RUN_weak (psub_cons rfl (psub_cons rfl (psub_nil _))) (ih8 h143 x154 hI fr fl6 (by omega) (by omega) (by omega) (by omega) (by omega) (by omega) (by omega) (by omega) (by omega) (by omega) (by omega))
  exact lp4 _ h (0 : Int32) hI fr (FR.rf _ _) (by decide) rfl rfl rfl rfl rfl rfl rfl rfl rfl (Nat.lt_succ_self _)
abbrev q_X9_readyNow (h : PH)  : Option PV → PH → Prop := fun r h' => h = h' ∧ ∃ z : Int32, r = some (.inl z) ∧ ((True))
set_option maxHeartbeats 4000000 in
set_option maxRecDepth 100000 in
theorem k_X9_readyNow (h : PH) (hI : INV h)  : CALL d_X9_readyNow [.inr (.inr (.inl 96))] h (q_X9_readyNow h) := by
  show RUN d_X9_readyNow 0 [(0, .inr (.inr (.inl 96)))] [] h _
  refine R_iconst 0 rfl rfl ?_
  refine R_istore_n (k := 1) rfl [(1, .inl 0), (0, .inr (.inr (.inl 96)))] rfl rfl (by decide) ?_
  refine R_iconst 0 rfl rfl ?_
  refine R_istore_n (k := 2) rfl [(2, .inl 0), (1, .inl 0), (0, .inr (.inr (.inl 96)))] rfl rfl (by decide) ?_
  have lp2 : ∀ (n1 : Nat) (x3 : Int32) (x4 : Int32), 0 ≤ x4.toInt ∧ x4.toInt ≤ 6 → (6 - x4.toInt).toNat < n1 → RUN d_X9_readyNow 4 [(2, .inl x4), (1, .inl x3), (0, .inr (.inr (.inl 96)))] [] h (q_X9_readyNow h) := by
    intro n1
    induction n1 with
    | zero => intro x3 x4 m6 hz; exact absurd hz (Nat.not_lt_zero _)
    | succ n1 ih5 =>
      intro x3 x4 m6 hz
      refine R_iload_n (k := 2) rfl rfl rfl ?_
      refine R_aload_n (k := 0) rfl rfl rfl ?_
      refine R_getf_i (j := 18) rfl ft_9_253 sh_96 rfl ?_
      have b7 : (0 : Int) ≤ (h.1 96 18).toInt ∧ (h.1 96 18).toInt ≤ 6 := hI.1 96 18
      refine N_icmp_ge (a := x4.toInt) (b := (h.1 96 18).toInt) 58 rfl rfl rfl rfl (fun c8 => ?_) (fun c8 => ?_)
      · refine R_iload_n (k := 1) rfl rfl rfl ?_
        exact R_iret rfl rfl rfl ⟨rfl, _, rfl, trivial⟩
      · refine R_iload_n (k := 1) rfl rfl rfl ?_
        refine R_aload_n (k := 0) rfl rfl rfl ?_
        refine R_getf_r (j := 22) rfl ft_9_46 sh_96 rfl ?_
        refine R_aload_n (k := 0) rfl rfl rfl ?_
        refine R_getf_r (j := 17) rfl ft_9_40 sh_96 rfl ?_
        refine R_iload_n (k := 2) rfl rfl rfl ?_
        refine R_iald rfl sh_105 ⟨by omega, by omega⟩ ?_
        refine N_bd (lo := 0) (hi := 5) (hI.1 105 _) (fun x9 q10 => ?_)
        refine R_iald rfl sh_107 ⟨by omega, by omega⟩ ?_
        refine N_any (fun x11 => ?_)
        refine R_aload_n (k := 0) rfl rfl rfl ?_
        refine R_getf_r (j := 15) rfl ft_9_34 sh_96 rfl ?_
        refine R_aload_n (k := 0) rfl rfl rfl ?_
        refine R_getf_r (j := 17) rfl ft_9_40 sh_96 rfl ?_
        refine R_iload_n (k := 2) rfl rfl rfl ?_
        refine R_iald rfl sh_105 ⟨by omega, by omega⟩ ?_
        refine N_bd (lo := 0) (hi := 5) (hI.1 105 _) (fun x12 q13 => ?_)
        refine R_iald rfl sh_103 ⟨by omega, by omega⟩ ?_
        refine N_any (fun x14 => ?_)
        refine N_icmp_lt (a := x11.toInt) (b := x14.toInt) 49 rfl rfl rfl rfl (fun c15 => ?_) (fun c15 => ?_)
        · refine R_iconst 0 rfl rfl ?_
          refine R_ior rfl ?_
          refine N_any (fun x16 => ?_)
          refine R_istore_n (k := 1) rfl [(1, .inl x16), (2, .inl x4), (0, .inr (.inr (.inl 96)))] rfl rfl (by decide) ?_
          refine N_iinc (a := x4.toInt) (c := 1) (fun w => [(2, .inl w), (1, .inl x16), (0, .inr (.inr (.inl 96)))]) rfl rfl (fun _ => rfl) (by decide) rfl (by decide) (by omega) (fun x17 q18 => ?_)
          refine R_goto 4 rfl rfl ?_
          exact RUN_weak (psub_cons rfl (psub_cons rfl (psub_cons rfl (psub_nil _)))) (ih5 x16 x17 (by omega) (by omega))
        · refine R_iconst 1 rfl rfl ?_
          refine R_aload_n (k := 0) rfl rfl rfl ?_
          refine R_getf_r (j := 17) rfl ft_9_40 sh_96 rfl ?_
          refine R_iload_n (k := 2) rfl rfl rfl ?_
          refine R_iald rfl sh_105 ⟨by omega, by omega⟩ ?_
          refine N_bd (lo := 0) (hi := 5) (hI.1 105 _) (fun x19 q20 => ?_)
          refine N_ishl1 (b := x19.toInt) rfl rfl (by omega) (fun x21 q22 => ?_)
          refine R_goto 50 rfl rfl ?_
          refine R_ior rfl ?_
          refine N_any (fun x23 => ?_)
          refine R_istore_n (k := 1) rfl [(1, .inl x23), (2, .inl x4), (0, .inr (.inr (.inl 96)))] rfl rfl (by decide) ?_
          refine N_iinc (a := x4.toInt) (c := 1) (fun w => [(2, .inl w), (1, .inl x23), (0, .inr (.inr (.inl 96)))]) rfl rfl (fun _ => rfl) (by decide) rfl (by decide) (by omega) (fun x24 q25 => ?_)
          refine R_goto 4 rfl rfl ?_
          exact RUN_weak (psub_cons rfl (psub_cons rfl (psub_cons rfl (psub_nil _)))) (ih5 x23 x24 (by omega) (by omega))
  exact lp2 _ (0 : Int32) (0 : Int32) (by decide) (Nat.lt_succ_self _)
abbrev q_X9_doesRest (h : PH) (a0 : Int32) (a1 : Int32) : Option PV → PH → Prop := fun r h' => h = h' ∧ ∃ z : Int32, r = some (.inl z) ∧ ((z.toInt = 0 ∧ 60 ≤ a1.toInt) ∨ (z.toInt = 0 ∧ 0 ≤ a1.toInt ∧ a1.toInt ≤ 59) ∨ (z.toInt = 1 ∧ 0 ≤ a1.toInt ∧ a1.toInt ≤ 59))
set_option maxHeartbeats 4000000 in
set_option maxRecDepth 100000 in
theorem k_X9_doesRest (h : PH) (hI : INV h) (a0 : Int32) (a1 : Int32) (h0a : 0 ≤ a0.toInt ∧ a0.toInt ≤ 5) (h1a : 0 ≤ a1.toInt ∧ a1.toInt ≤ 2147483647) : CALL d_X9_doesRest [.inr (.inr (.inl 96)), .inl a0, .inl a1] h (q_X9_doesRest h a0 a1) := by
  show RUN d_X9_doesRest 0 [(0, .inr (.inr (.inl 96))), (1, .inl a0), (2, .inl a1)] [] h _
  refine R_iload_n (k := 2) rfl rfl rfl ?_
  refine R_bipush 60 rfl rfl ?_
  refine N_icmp_ge (a := a1.toInt) (b := 60) 24 rfl rfl rfl (by decide) (fun c1 => ?_) (fun c1 => ?_)
  · refine R_iconst 0 rfl rfl ?_
    exact R_iret rfl rfl rfl ⟨rfl, _, rfl, by rw [show (0 : Int32).toInt = 0 from rfl]; omega⟩
  · refine R_aload_n (k := 0) rfl rfl rfl ?_
    refine R_getf_r (j := 16) rfl ft_9_37 sh_96 rfl ?_
    refine R_bipush 6 rfl rfl ?_
    refine R_iload_n (k := 2) rfl rfl rfl ?_
    refine N_imul (a := 6) (b := a1.toInt) rfl (by decide) rfl (by omega) (fun x2 q3 => ?_)
    refine R_iload_n (k := 1) rfl rfl rfl ?_
    refine N_iadd (a := x2.toInt) (b := a0.toInt) rfl rfl rfl (by omega) (fun x4 q5 => ?_)
    refine R_zald rfl sh_104 ⟨by omega, by omega⟩ ?_
    refine N_any (fun x6 => ?_)
    refine N_if_eq (a := x6.toInt) 24 rfl rfl rfl (fun c7 => ?_) (fun c7 => ?_)
    · refine R_iconst 0 rfl rfl ?_
      exact R_iret rfl rfl rfl ⟨rfl, _, rfl, by rw [show (0 : Int32).toInt = 0 from rfl]; omega⟩
    · refine R_iconst 1 rfl rfl ?_
      refine R_goto 25 rfl rfl ?_
      exact R_iret rfl rfl rfl ⟨rfl, _, rfl, by rw [show (1 : Int32).toInt = 1 from rfl]; omega⟩
abbrev q_X9_spill (h : PH) (a0 : Int32) : Option PV → PH → Prop := fun r h' => INV h' ∧ FR [96, 108, 117, 118] h h' ∧ ((h'.1 96 18).toInt = (h.1 96 18).toInt ∧ (h'.1 96 34).toInt = (h.1 96 34).toInt ∧ (h'.1 96 35).toInt = (h.1 96 35).toInt ∧ (h'.1 96 41).toInt = (h.1 96 41).toInt ∧ (h'.1 96 42).toInt = (h.1 96 42).toInt ∧ (h'.1 96 19).toInt = (h.1 96 19).toInt ∧ (h'.1 96 20).toInt = (h.1 96 20).toInt ∧ (h'.1 96 46).toInt = (h.1 96 46).toInt ∧ (h'.1 96 44).toInt = (h.1 96 44).toInt ∧ (h'.1 96 47).toInt = (h.1 96 47).toInt ∧ (h'.1 96 48).toInt = (h.1 96 48).toInt ∧ (h'.1 96 51).toInt = (h.1 96 51).toInt ∧ True) ∧ r = none
set_option maxHeartbeats 4000000 in
set_option maxRecDepth 100000 in
theorem k_X9_spill (h : PH) (hI : INV h) (a0 : Int32) (h0a : 0 ≤ a0.toInt ∧ a0.toInt ≤ 5) : CALL d_X9_spill [.inr (.inr (.inl 96)), .inl a0] h (q_X9_spill h a0) := by
  show RUN d_X9_spill 0 [(0, .inr (.inr (.inl 96))), (1, .inl a0)] [] h _
  have fr : FR [96, 108, 117, 118] h h := FR.rf _ _
  have b1 : (0 : Int) ≤ (h.1 96 18).toInt ∧ (h.1 96 18).toInt ≤ 6 := hI.1 96 18
  have b2 : (0 : Int) ≤ (h.1 96 51).toInt ∧ (h.1 96 51).toInt ≤ 720 := hI.1 96 51
  refine R_aload_n (k := 0) rfl rfl rfl ?_
  refine R_getf_r (j := 23) rfl ft_9_49 sh_96 rfl ?_
  refine R_iload_n (k := 1) rfl rfl rfl ?_
  refine R_iald rfl sh_108 ⟨by omega, by omega⟩ ?_
  refine N_any (fun x3 => ?_)
  refine R_aload_n (k := 0) rfl rfl rfl ?_
  refine R_getf_r (j := 1) rfl ft_9_9 sh_96 rfl ?_
  refine R_bipush 11 rfl rfl ?_
  refine R_iconst 2 rfl rfl ?_
  refine R_iload_n (k := 1) rfl rfl rfl ?_
  refine N_imul (a := 2) (b := a0.toInt) rfl (by decide) rfl (by omega) (fun x4 q5 => ?_)
  refine N_iadd (a := 11) (b := x4.toInt) rfl (by decide) rfl (by omega) (fun x6 q7 => ?_)
  refine R_iconst 1 rfl rfl ?_
  refine N_iadd (a := x6.toInt) (b := 1) rfl rfl (by decide) (by omega) (fun x8 q9 => ?_)
  refine R_iald rfl sh_97 ⟨by omega, by omega⟩ ?_
  refine N_any (fun x10 => ?_)
  refine N_min (a := x3.toInt) (b := x10.toInt) rfl mt_9_i167 rfl rfl ⟨by decide, by decide, Nat.le_of_ble_eq_true rfl⟩ (fun x11 q12 => ?_)
  refine R_istore_n (k := 2) rfl [(2, .inl x11), (0, .inr (.inr (.inl 96))), (1, .inl a0)] rfl rfl (by decide) ?_
  refine R_aload_n (k := 0) rfl rfl rfl ?_
  refine R_getf_r (j := 23) rfl ft_9_49 sh_96 rfl ?_
  refine R_iload_n (k := 1) rfl rfl rfl ?_
  refine R_dup2 rfl ?_
  refine R_iald rfl sh_108 ⟨by omega, by omega⟩ ?_
  refine N_any (fun x13 => ?_)
  refine R_iload_n (k := 2) rfl rfl rfl ?_
  have b14 := i_rng x13
  have b15 := i_rng x11
  refine R_isub rfl ?_
  refine N_any (fun x16 => ?_)
  refine K_iast (a := a0.toInt) (lo := (-2147483648)) (hi' := 2147483647) rfl sh_108 rfl ⟨by omega, by omega⟩ hI (by decide) rfl (i_rng _) fr (by decide) (fun h17 g18 hI fr => ?_)
  have s19 : (h17.1 96 18).toInt = (h.1 96 18).toInt := by rw [g18, wI_ne _ _ _ (by decide)]
  have s20 : (h17.1 96 34).toInt = (h.1 96 34).toInt := by rw [g18, wI_ne _ _ _ (by decide)]
  have s21 : (h17.1 96 35).toInt = (h.1 96 35).toInt := by rw [g18, wI_ne _ _ _ (by decide)]
  have s22 : (h17.1 96 36).toInt = (h.1 96 36).toInt := by rw [g18, wI_ne _ _ _ (by decide)]
  have s23 : (h17.1 96 41).toInt = (h.1 96 41).toInt := by rw [g18, wI_ne _ _ _ (by decide)]
  have s24 : (h17.1 96 42).toInt = (h.1 96 42).toInt := by rw [g18, wI_ne _ _ _ (by decide)]
  have s25 : (h17.1 96 19).toInt = (h.1 96 19).toInt := by rw [g18, wI_ne _ _ _ (by decide)]
  have s26 : (h17.1 96 20).toInt = (h.1 96 20).toInt := by rw [g18, wI_ne _ _ _ (by decide)]
  have s27 : (h17.1 96 46).toInt = (h.1 96 46).toInt := by rw [g18, wI_ne _ _ _ (by decide)]
  have s28 : (h17.1 96 44).toInt = (h.1 96 44).toInt := by rw [g18, wI_ne _ _ _ (by decide)]
  have s29 : (h17.1 96 47).toInt = (h.1 96 47).toInt := by rw [g18, wI_ne _ _ _ (by decide)]
  have s30 : (h17.1 96 48).toInt = (h.1 96 48).toInt := by rw [g18, wI_ne _ _ _ (by decide)]
  have s31 : (h17.1 96 51).toInt = (h.1 96 51).toInt := by rw [g18, wI_ne _ _ _ (by decide)]
  refine R_aload_n (k := 0) rfl rfl rfl ?_
  refine R_getf_r (j := 33) rfl ft_9_79 sh_96 rfl ?_
  refine R_iload_n (k := 1) rfl rfl rfl ?_
  refine R_dup2 rfl ?_
  refine R_iald rfl sh_118 ⟨by omega, by omega⟩ ?_
  refine N_any (fun x32 => ?_)
  refine R_iload_n (k := 2) rfl rfl rfl ?_
  have b33 := i_rng x32
  have b34 := i_rng x11
  refine R_iadd rfl ?_
  refine N_any (fun x35 => ?_)
  refine K_iast (a := a0.toInt) (lo := (-2147483648)) (hi' := 2147483647) rfl sh_118 rfl ⟨by omega, by omega⟩ hI (by decide) rfl (i_rng _) fr (by decide) (fun h36 g37 hI fr => ?_)
  have s38 : (h36.1 96 18).toInt = (h17.1 96 18).toInt := by rw [g37, wI_ne _ _ _ (by decide)]
  have s39 : (h36.1 96 34).toInt = (h17.1 96 34).toInt := by rw [g37, wI_ne _ _ _ (by decide)]
  have s40 : (h36.1 96 35).toInt = (h17.1 96 35).toInt := by rw [g37, wI_ne _ _ _ (by decide)]
  have s41 : (h36.1 96 36).toInt = (h17.1 96 36).toInt := by rw [g37, wI_ne _ _ _ (by decide)]
  have s42 : (h36.1 96 41).toInt = (h17.1 96 41).toInt := by rw [g37, wI_ne _ _ _ (by decide)]
  have s43 : (h36.1 96 42).toInt = (h17.1 96 42).toInt := by rw [g37, wI_ne _ _ _ (by decide)]
  have s44 : (h36.1 96 19).toInt = (h17.1 96 19).toInt := by rw [g37, wI_ne _ _ _ (by decide)]
  have s45 : (h36.1 96 20).toInt = (h17.1 96 20).toInt := by rw [g37, wI_ne _ _ _ (by decide)]
  have s46 : (h36.1 96 46).toInt = (h17.1 96 46).toInt := by rw [g37, wI_ne _ _ _ (by decide)]
  have s47 : (h36.1 96 44).toInt = (h17.1 96 44).toInt := by rw [g37, wI_ne _ _ _ (by decide)]
  have s48 : (h36.1 96 47).toInt = (h17.1 96 47).toInt := by rw [g37, wI_ne _ _ _ (by decide)]
  have s49 : (h36.1 96 48).toInt = (h17.1 96 48).toInt := by rw [g37, wI_ne _ _ _ (by decide)]
  have s50 : (h36.1 96 51).toInt = (h17.1 96 51).toInt := by rw [g37, wI_ne _ _ _ (by decide)]
  refine R_aload_n (k := 0) rfl rfl rfl ?_
  refine R_dup_r rfl ?_
  refine R_getf_i (j := 36) rfl ft_9_268 sh_96 rfl ?_
  refine R_iload_n (k := 2) rfl rfl rfl ?_
  have b51 := i_rng (h36.1 96 36)
  have b52 := i_rng x11
  refine R_iadd rfl ?_
  refine N_any (fun x53 => ?_)
  refine K_putf (j := 36) (lo := (-2147483648)) (hi' := 2147483647) rfl ft_9_268 sh_96 rfl hI (by decide) rfl (i_rng _) fr (by decide) (fun h54 g55 hI fr => ?_)
  have s56 : (h54.1 96 18).toInt = (h36.1 96 18).toInt := by rw [g55, wI_at (by decide)]
  have s57 : (h54.1 96 34).toInt = (h36.1 96 34).toInt := by rw [g55, wI_at (by decide)]
  have s58 : (h54.1 96 35).toInt = (h36.1 96 35).toInt := by rw [g55, wI_at (by decide)]
  have s59 : (h54.1 96 41).toInt = (h36.1 96 41).toInt := by rw [g55, wI_at (by decide)]
  have s60 : (h54.1 96 42).toInt = (h36.1 96 42).toInt := by rw [g55, wI_at (by decide)]
  have s61 : (h54.1 96 19).toInt = (h36.1 96 19).toInt := by rw [g55, wI_at (by decide)]
  have s62 : (h54.1 96 20).toInt = (h36.1 96 20).toInt := by rw [g55, wI_at (by decide)]
  have s63 : (h54.1 96 46).toInt = (h36.1 96 46).toInt := by rw [g55, wI_at (by decide)]
  have s64 : (h54.1 96 44).toInt = (h36.1 96 44).toInt := by rw [g55, wI_at (by decide)]
  have s65 : (h54.1 96 47).toInt = (h36.1 96 47).toInt := by rw [g55, wI_at (by decide)]
  have s66 : (h54.1 96 48).toInt = (h36.1 96 48).toInt := by rw [g55, wI_at (by decide)]
  have s67 : (h54.1 96 51).toInt = (h36.1 96 51).toInt := by rw [g55, wI_at (by decide)]
  have s68 : (h54.1 96 36).toInt = x53.toInt := by rw [g55, wI_is]
  refine R_aload_n (k := 0) rfl rfl rfl ?_
  refine R_getf_r (j := 32) rfl ft_9_76 sh_96 rfl ?_
  refine R_iload_n (k := 1) rfl rfl rfl ?_
  refine R_dup2 rfl ?_
  refine R_iald rfl sh_117 ⟨by omega, by omega⟩ ?_
  refine N_any (fun x69 => ?_)
  refine R_iconst 1 rfl rfl ?_
  have b70 := i_rng x69
  refine R_iadd rfl ?_
  refine N_any (fun x71 => ?_)
  refine K_iast (a := a0.toInt) (lo := (-2147483648)) (hi' := 2147483647) rfl sh_117 rfl ⟨by omega, by omega⟩ hI (by decide) rfl (i_rng _) fr (by decide) (fun h72 g73 hI fr => ?_)
  have s74 : (h72.1 96 18).toInt = (h54.1 96 18).toInt := by rw [g73, wI_ne _ _ _ (by decide)]
  have s75 : (h72.1 96 34).toInt = (h54.1 96 34).toInt := by rw [g73, wI_ne _ _ _ (by decide)]
  have s76 : (h72.1 96 35).toInt = (h54.1 96 35).toInt := by rw [g73, wI_ne _ _ _ (by decide)]
  have s77 : (h72.1 96 41).toInt = (h54.1 96 41).toInt := by rw [g73, wI_ne _ _ _ (by decide)]
  have s78 : (h72.1 96 42).toInt = (h54.1 96 42).toInt := by rw [g73, wI_ne _ _ _ (by decide)]
  have s79 : (h72.1 96 19).toInt = (h54.1 96 19).toInt := by rw [g73, wI_ne _ _ _ (by decide)]
  have s80 : (h72.1 96 20).toInt = (h54.1 96 20).toInt := by rw [g73, wI_ne _ _ _ (by decide)]
  have s81 : (h72.1 96 46).toInt = (h54.1 96 46).toInt := by rw [g73, wI_ne _ _ _ (by decide)]
  have s82 : (h72.1 96 44).toInt = (h54.1 96 44).toInt := by rw [g73, wI_ne _ _ _ (by decide)]
  have s83 : (h72.1 96 47).toInt = (h54.1 96 47).toInt := by rw [g73, wI_ne _ _ _ (by decide)]
  have s84 : (h72.1 96 48).toInt = (h54.1 96 48).toInt := by rw [g73, wI_ne _ _ _ (by decide)]
  have s85 : (h72.1 96 51).toInt = (h54.1 96 51).toInt := by rw [g73, wI_ne _ _ _ (by decide)]
  have s86 : (h72.1 96 36).toInt = (h54.1 96 36).toInt := by rw [g73, wI_ne _ _ _ (by decide)]
  exact R_vret rfl rfl ⟨hI, fr, ⟨by omega, by omega, by omega, by omega, by omega, by omega, by omega, by omega, by omega, by omega, by omega, by omega, trivial⟩, rfl⟩
