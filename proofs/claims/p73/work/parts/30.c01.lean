abbrev q_X2_busyBits (h : PH)  : Option PV → PH → Prop := fun r h' => h = h' ∧ ∃ z : Int32, r = some (.inl z) ∧ ((True))
set_option maxHeartbeats 4000000 in
set_option maxRecDepth 100000 in
theorem k_X2_busyBits (h : PH) (hI : INV h)  : CALL d_X2_busyBits [.inr (.inr (.inl 70))] h (q_X2_busyBits h) := by
  show RUN d_X2_busyBits 0 [(0, .inr (.inr (.inl 70)))] [] h _
  refine R_iconst 0 rfl rfl ?_
  refine R_istore_n (k := 1) rfl [(1, .inl 0), (0, .inr (.inr (.inl 70)))] rfl rfl (by decide) ?_
  refine R_iconst 0 rfl rfl ?_
  refine R_istore_n (k := 2) rfl [(2, .inl 0), (1, .inl 0), (0, .inr (.inr (.inl 70)))] rfl rfl (by decide) ?_
  have lp2 : ∀ (n1 : Nat) (x3 : Int32) (x4 : Int32), 0 ≤ x4.toInt ∧ x4.toInt ≤ 2147483647 → (2147483647 - x4.toInt).toNat < n1 → RUN d_X2_busyBits 4 [(2, .inl x4), (1, .inl x3), (0, .inr (.inr (.inl 70)))] [] h (q_X2_busyBits h) := by
    intro n1
    induction n1 with
    | zero => intro x3 x4 m6 hz; exact absurd hz (Nat.not_lt_zero _)
    | succ n1 ih5 =>
      intro x3 x4 m6 hz
      refine R_iload_n (k := 2) rfl rfl rfl ?_
      refine R_aload_n (k := 0) rfl rfl rfl ?_
      refine R_getf_i (j := 4) rfl ft_2_25 sh_70 rfl ?_
      have b7 : (0 : Int) ≤ (h.1 70 4).toInt ∧ (h.1 70 4).toInt ≤ 6 := hI.1 70 4
      refine N_icmp_ge (a := x4.toInt) (b := (h.1 70 4).toInt) 33 rfl rfl rfl rfl (fun c8 => ?_) (fun c8 => ?_)
      · refine R_iload_n (k := 1) rfl rfl rfl ?_
        exact R_iret rfl rfl rfl ⟨rfl, _, rfl, trivial⟩
      · refine R_aload_n (k := 0) rfl rfl rfl ?_
        refine R_getf_r (j := 3) rfl ft_2_22 sh_70 rfl ?_
        refine R_iload_n (k := 2) rfl rfl rfl ?_
        refine R_iald rfl sh_74 ⟨by omega, by omega⟩ ?_
        refine N_any (fun x9 => ?_)
        refine N_if_le (a := x9.toInt) 27 rfl rfl rfl (fun c10 => ?_) (fun c10 => ?_)
        · refine N_iinc (a := x4.toInt) (c := 1) (fun w => [(2, .inl w), (1, .inl x3), (0, .inr (.inr (.inl 70)))]) rfl rfl (fun _ => rfl) (by decide) rfl (by decide) (by omega) (fun x11 q12 => ?_)
          refine R_goto 4 rfl rfl ?_
          exact RUN_weak (psub_cons rfl (psub_cons rfl (psub_cons rfl (psub_nil _)))) (ih5 x3 x11 (by omega) (by omega))
        · refine R_iload_n (k := 1) rfl rfl rfl ?_
          refine R_iconst 1 rfl rfl ?_
          refine R_iload_n (k := 2) rfl rfl rfl ?_
          refine N_ishl1 (b := x4.toInt) rfl rfl (by omega) (fun x13 q14 => ?_)
          refine R_ior rfl ?_
          refine N_any (fun x15 => ?_)
          refine R_istore_n (k := 1) rfl [(1, .inl x15), (2, .inl x4), (0, .inr (.inr (.inl 70)))] rfl rfl (by decide) ?_
          refine N_iinc (a := x4.toInt) (c := 1) (fun w => [(2, .inl w), (1, .inl x15), (0, .inr (.inr (.inl 70)))]) rfl rfl (fun _ => rfl) (by decide) rfl (by decide) (by omega) (fun x16 q17 => ?_)
          refine R_goto 4 rfl rfl ?_
          exact RUN_weak (psub_cons rfl (psub_cons rfl (psub_cons rfl (psub_nil _)))) (ih5 x15 x16 (by omega) (by omega))
  exact lp2 _ (0 : Int32) (0 : Int32) (by decide) (Nat.lt_succ_self _)
abbrev q_J6_bitCount_0f7a4 (h : PH) (a0 : Int32) : Option PV → PH → Prop := fun r h' => h = h' ∧ ∃ z : Int32, r = some (.inl z) ∧ ((0 ≤ z.toInt ∧ z.toInt ≤ 63))
set_option maxHeartbeats 4000000 in
set_option maxRecDepth 100000 in
theorem k_J6_bitCount_0f7a4 (h : PH) (hI : INV h) (a0 : Int32) : CALL d_J6_bitCount_0f7a4 [.inl a0] h (q_J6_bitCount_0f7a4 h a0) := by
  show RUN d_J6_bitCount_0f7a4 0 [(0, .inl a0)] [] h _
  have b1 := i_rng a0
  refine R_iload_n (k := 0) rfl rfl rfl ?_
  refine R_iload_n (k := 0) rfl rfl rfl ?_
  refine R_iconst 1 rfl rfl ?_
  refine R_iushr rfl ?_
  refine N_any (fun x2 => ?_)
  refine R_ldcw_i (x := 1431655765) rfl kt_10_265 ?_
  refine N_iand (b := 1431655765) rfl (by decide) (by omega) (fun x3 q4 => ?_)
  have b5 := i_rng a0
  refine R_isub rfl ?_
  refine N_any (fun x6 => ?_)
  refine R_istore_n (k := 0) rfl [(0, .inl x6)] rfl rfl (by decide) ?_
  refine R_iload_n (k := 0) rfl rfl rfl ?_
  refine R_ldcw_i (x := 858993459) rfl kt_10_266 ?_
  refine N_iand (b := 858993459) rfl (by decide) (by omega) (fun x7 q8 => ?_)
  refine R_iload_n (k := 0) rfl rfl rfl ?_
  refine R_iconst 2 rfl rfl ?_
  refine R_iushr rfl ?_
  refine N_any (fun x9 => ?_)
  refine R_ldcw_i (x := 858993459) rfl kt_10_266 ?_
  refine N_iand (b := 858993459) rfl (by decide) (by omega) (fun x10 q11 => ?_)
  refine N_iadd (a := x7.toInt) (b := x10.toInt) rfl rfl rfl (by omega) (fun x12 q13 => ?_)
  refine R_istore_n (k := 0) rfl [(0, .inl x12)] rfl rfl (by decide) ?_
  refine R_iload_n (k := 0) rfl rfl rfl ?_
  refine R_iload_n (k := 0) rfl rfl rfl ?_
  refine R_iconst 4 rfl rfl ?_
  refine R_iushr rfl ?_
  refine N_any (fun x14 => ?_)
  have b15 := i_rng x14
  refine R_iadd rfl ?_
  refine N_any (fun x16 => ?_)
  refine R_ldcw_i (x := 252645135) rfl kt_10_267 ?_
  refine N_iand (b := 252645135) rfl (by decide) (by omega) (fun x17 q18 => ?_)
  refine R_istore_n (k := 0) rfl [(0, .inl x17)] rfl rfl (by decide) ?_
  refine R_iload_n (k := 0) rfl rfl rfl ?_
  refine R_iload_n (k := 0) rfl rfl rfl ?_
  refine R_bipush 8 rfl rfl ?_
  refine R_iushr rfl ?_
  refine N_any (fun x19 => ?_)
  have b20 := i_rng x19
  refine R_iadd rfl ?_
  refine N_any (fun x21 => ?_)
  refine R_istore_n (k := 0) rfl [(0, .inl x21)] rfl rfl (by decide) ?_
  refine R_iload_n (k := 0) rfl rfl rfl ?_
  refine R_iload_n (k := 0) rfl rfl rfl ?_
  refine R_bipush 16 rfl rfl ?_
  refine R_iushr rfl ?_
  refine N_any (fun x22 => ?_)
  have b23 := i_rng x21
  have b24 := i_rng x22
  refine R_iadd rfl ?_
  refine N_any (fun x25 => ?_)
  refine R_istore_n (k := 0) rfl [(0, .inl x25)] rfl rfl (by decide) ?_
  refine R_iload_n (k := 0) rfl rfl rfl ?_
  refine R_bipush 63 rfl rfl ?_
  refine N_iand (b := 63) rfl (by decide) (by omega) (fun x26 q27 => ?_)
  exact R_iret rfl rfl rfl ⟨rfl, _, rfl, by omega⟩
abbrev q_X6_noteLine (h : PH) (a1 : Int32) : Option PV → PH → Prop := fun r h' => INV h' ∧ FR [76, 77, 79, 81, 82] h h' ∧ r = none
set_option maxHeartbeats 4000000 in
set_option maxRecDepth 100000 in
theorem k_X6_noteLine (h : PH) (hI : INV h) (a1 : Int32) (h1a : 0 ≤ a1.toInt ∧ a1.toInt ≤ 59) : CALL d_X6_noteLine [.inr (.inr (.inl 75)), .inr (.inr (.inl 70)), .inl a1] h (q_X6_noteLine h a1) := by
  show RUN d_X6_noteLine 0 [(0, .inr (.inr (.inl 75))), (1, .inr (.inr (.inl 70))), (2, .inl a1)] [] h _
  have fr : FR [76, 77, 79, 81, 82] h h := FR.rf _ _
  refine R_iconst 0 rfl rfl ?_
  refine R_istore_n (k := 3) rfl [(3, .inl 0), (0, .inr (.inr (.inl 75))), (1, .inr (.inr (.inl 70))), (2, .inl a1)] rfl rfl (by decide) ?_
  have lp2 : ∀ (n1 : Nat) (h3 : PH) (x5 : Int32), INV h3 → FR [76, 77, 79, 81, 82] h h3 → FR [76, 77, 79, 81, 82] h h3 → 0 ≤ x5.toInt ∧ x5.toInt ≤ 2147483647 → (2147483647 - x5.toInt).toNat < n1 → RUN d_X6_noteLine 2 [(3, .inl x5), (0, .inr (.inr (.inl 75))), (1, .inr (.inr (.inl 70))), (2, .inl a1)] [] h3 (q_X6_noteLine h a1) := by
    intro n1
    induction n1 with
    | zero => intro h3 x5 m7 m8 m9 m10 hz; exact absurd hz (Nat.not_lt_zero _)
    | succ n1 ih6 =>
      intro h3 x5 hI fr fl4 m10 hz
      refine R_iload_n (k := 3) rfl rfl rfl ?_
      refine R_bipush 6 rfl rfl ?_
      refine N_icmp_ge (a := x5.toInt) (b := 6) 31 rfl rfl rfl (by decide) (fun c11 => ?_) (fun c11 => ?_)
      · refine R_aload_n (k := 0) rfl rfl rfl ?_
        refine R_getf_r (j := 1) rfl ft_6_15 sh_75 rfl ?_
        refine R_iload_n (k := 2) rfl rfl rfl ?_
        refine R_aload_n (k := 1) rfl rfl rfl ?_
        refine R_callV (v := .inr (.inr (.inl 70))) (As := []) (rest := [.inl a1, .inr (.inr (.inl 77))]) rfl mt_6_i86 pp_X2_busyBits (by decide) rfl rfl rfl (Nat.le_of_ble_eq_true rfl) (Nat.le_of_ble_eq_true rfl) ((k_X2_busyBits h3 hI).mono (fun r12 h13 p14 => ?_))
        obtain ⟨rfl, x15, rfl, q16⟩ := p14
        show RUN d_X6_noteLine 40 [(3, .inl x5), (0, .inr (.inr (.inl 75))), (1, .inr (.inr (.inl 70))), (2, .inl a1)] [.inl x15, .inl a1, .inr (.inr (.inl 77))] h3 _
        refine K_iast (a := a1.toInt) (lo := (-2147483648)) (hi' := 2147483647) rfl sh_77 rfl ⟨by omega, by omega⟩ hI (by decide) rfl (i_rng _) fr (by decide) (fun h17 g18 hI fr => ?_)
        have fl4 : FR [76, 77, 79, 81, 82] h h17 := by rw [g18]; exact FR_wI _ _ fl4 (by decide)
        refine R_aload_n (k := 0) rfl rfl rfl ?_
        refine R_getf_r (j := 3) rfl ft_6_21 sh_75 rfl ?_
        refine R_iload_n (k := 2) rfl rfl rfl ?_
        refine R_aload_n (k := 1) rfl rfl rfl ?_
        refine R_callV (v := .inr (.inr (.inl 70))) (As := []) (rest := [.inl a1, .inr (.inr (.inl 79))]) rfl mt_6_i70 pp_X2_readyBits (by decide) rfl rfl rfl (Nat.le_of_ble_eq_true rfl) (Nat.le_of_ble_eq_true rfl) ((k_X2_readyBits h17 hI).mono (fun r19 h20 p21 => ?_))
        obtain ⟨rfl, x22, rfl, q23⟩ := p21
        show RUN d_X6_noteLine 50 [(3, .inl x5), (0, .inr (.inr (.inl 75))), (1, .inr (.inr (.inl 70))), (2, .inl a1)] [.inl x22, .inl a1, .inr (.inr (.inl 79))] h17 _
        refine K_iast (a := a1.toInt) (lo := (-2147483648)) (hi' := 2147483647) rfl sh_79 rfl ⟨by omega, by omega⟩ hI (by decide) rfl (i_rng _) fr (by decide) (fun h24 g25 hI fr => ?_)
        have fl4 : FR [76, 77, 79, 81, 82] h h24 := by rw [g25]; exact FR_wI _ _ fl4 (by decide)
        refine R_aload_n (k := 0) rfl rfl rfl ?_
        refine R_getf_r (j := 5) rfl ft_6_27 sh_75 rfl ?_
        refine R_iload_n (k := 2) rfl rfl rfl ?_
        refine R_aload_n (k := 1) rfl rfl rfl ?_
        refine R_getf_i (j := 8) rfl ft_6_89 sh_70 rfl ?_
        refine K_iast (a := a1.toInt) (lo := (-2147483648)) (hi' := 2147483647) rfl sh_81 rfl ⟨by omega, by omega⟩ hI (by decide) rfl (i_rng _) fr (by decide) (fun h26 g27 hI fr => ?_)
        have fl4 : FR [76, 77, 79, 81, 82] h h26 := by rw [g27]; exact FR_wI _ _ fl4 (by decide)
        have s28 : (h26.1 70 8).toInt = (h24.1 70 8).toInt := by rw [g27, wI_ne _ _ _ (by decide)]
        refine R_aload_n (k := 0) rfl rfl rfl ?_
        refine R_getf_r (j := 6) rfl ft_6_30 sh_75 rfl ?_
        refine R_iload_n (k := 2) rfl rfl rfl ?_
        refine R_aload_n (k := 1) rfl rfl rfl ?_
        refine R_getf_i (j := 9) rfl ft_6_92 sh_70 rfl ?_
        refine R_callS (As := [.inl (h26.1 70 9)]) (rest := [.inl a1, .inr (.inr (.inl 82))]) rfl mt_6_i95 (by decide) pp_J6_bitCount_0f7a4 (by decide) rfl rfl (Nat.le_of_ble_eq_true rfl) (Nat.le_of_ble_eq_true rfl) ((k_J6_bitCount_0f7a4 h26 hI (h26.1 70 9)).mono (fun r29 h30 p31 => ?_))
        obtain ⟨rfl, x32, rfl, q33⟩ := p31
        show RUN d_X6_noteLine 73 [(3, .inl x5), (0, .inr (.inr (.inl 75))), (1, .inr (.inr (.inl 70))), (2, .inl a1)] [.inl x32, .inl a1, .inr (.inr (.inl 82))] h26 _
        refine K_iast (a := a1.toInt) (lo := (-2147483648)) (hi' := 2147483647) rfl sh_82 rfl ⟨by omega, by omega⟩ hI (by decide) rfl (i_rng _) fr (by decide) (fun h34 g35 hI fr => ?_)
        have fl4 : FR [76, 77, 79, 81, 82] h h34 := by rw [g35]; exact FR_wI _ _ fl4 (by decide)
        have s36 : (h34.1 70 8).toInt = (h26.1 70 8).toInt := by rw [g35, wI_ne _ _ _ (by decide)]
        have s37 : (h34.1 70 9).toInt = (h26.1 70 9).toInt := by rw [g35, wI_ne _ _ _ (by decide)]
        exact R_vret rfl rfl ⟨hI, fr, rfl⟩
      · refine R_aload_n (k := 0) rfl rfl rfl ?_
        refine R_getf_r (j := 0) rfl ft_6_9 sh_75 rfl ?_
        refine R_iload_n (k := 2) rfl rfl rfl ?_
        refine R_bipush 6 rfl rfl ?_
        refine N_imul (a := a1.toInt) (b := 6) rfl rfl (by decide) (by omega) (fun x38 q39 => ?_)
        refine R_iload_n (k := 3) rfl rfl rfl ?_
        refine N_iadd (a := x38.toInt) (b := x5.toInt) rfl rfl rfl (by omega) (fun x40 q41 => ?_)
        refine R_aload_n (k := 1) rfl rfl rfl ?_
        refine R_getf_r (j := 3) rfl ft_6_85 sh_70 rfl ?_
        refine R_iload_n (k := 3) rfl rfl rfl ?_
        refine R_iald rfl sh_74 ⟨by omega, by omega⟩ ?_
        refine N_any (fun x42 => ?_)
        refine K_iast (a := x40.toInt) (lo := (-2147483648)) (hi' := 2147483647) rfl sh_76 rfl ⟨by omega, by omega⟩ hI (by decide) rfl (i_rng _) fr (by decide) (fun h43 g44 hI fr => ?_)
        have fl4 : FR [76, 77, 79, 81, 82] h h43 := by rw [g44]; exact FR_wI _ _ fl4 (by decide)
        refine N_iinc (a := x5.toInt) (c := 1) (fun w => [(3, .inl w), (0, .inr (.inr (.inl 75))), (1, .inr (.inr (.inl 70))), (2, .inl a1)]) rfl rfl (fun _ => rfl) (by decide) rfl (by decide) (by omega) (fun x45 q46 => ?_)
        refine R_goto 2 rfl rfl ?_
        exact RUN_weak (psub_cons rfl (psub_cons rfl (psub_cons rfl (psub_cons rfl (psub_nil _))))) (ih6 h43 x45 hI fr fl4 (by omega) (by omega))
  exact lp2 _ h (0 : Int32) hI fr (FR.rf _ _) (by decide) (Nat.lt_succ_self _)
abbrev q_X6_lossOf (h : PH) (a0 : Int32) : Option PV → PH → Prop := fun r h' => h = h' ∧ ∃ z : Int32, r = some (.inl z) ∧ ((True))
set_option maxHeartbeats 4000000 in
set_option maxRecDepth 100000 in
theorem k_X6_lossOf (h : PH) (hI : INV h) (a0 : Int32) (h0a : 0 ≤ a0.toInt ∧ a0.toInt ≤ 5) : CALL d_X6_lossOf [.inr (.inr (.inl 75)), .inl a0] h (q_X6_lossOf h a0) := by
  show RUN d_X6_lossOf 0 [(0, .inr (.inr (.inl 75))), (1, .inl a0)] [] h _
  refine R_aload_n (k := 0) rfl rfl rfl ?_
  refine R_getf_r (j := 10) rfl ft_6_42 sh_75 rfl ?_
  refine R_iload_n (k := 1) rfl rfl rfl ?_
  refine R_iald rfl sh_86 ⟨by omega, by omega⟩ ?_
  refine N_any (fun x1 => ?_)
  refine R_aload_n (k := 0) rfl rfl rfl ?_
  refine R_getf_r (j := 10) rfl ft_6_42 sh_75 rfl ?_
  refine R_iload_n (k := 1) rfl rfl rfl ?_
  refine R_iconst 1 rfl rfl ?_
  refine N_iadd (a := a0.toInt) (b := 1) rfl rfl (by decide) (by omega) (fun x2 q3 => ?_)
  refine R_iald rfl sh_86 ⟨by omega, by omega⟩ ?_
  refine N_any (fun x4 => ?_)
  have b5 := i_rng x1
  have b6 := i_rng x4
  refine R_isub rfl ?_
  refine N_any (fun x7 => ?_)
  exact R_iret rfl rfl rfl ⟨rfl, _, rfl, trivial⟩
abbrev q_X8_burnsOn (h : PH) (a0 : Int32) (a1 : Int32) (a2 : Int32) : Option PV → PH → Prop := fun r h' => h = h' ∧ ∃ z : Int32, r = some (.inl z) ∧ ((True))
set_option maxHeartbeats 4000000 in
set_option maxRecDepth 100000 in
theorem k_X8_burnsOn (h : PH) (hI : INV h) (a0 : Int32) (a1 : Int32) (a2 : Int32) : CALL d_X8_burnsOn [.inl a0, .inl a1, .inl a2] h (q_X8_burnsOn h a0 a1 a2) := by
  show RUN d_X8_burnsOn 0 [(0, .inl a0), (1, .inl a1), (2, .inl a2)] [] h _
  have b1 := i_rng a0
  have b2 := i_rng a1
  have b3 := i_rng a2
  refine R_iload_n (k := 0) rfl rfl rfl ?_
  refine R_iload_n (k := 1) rfl rfl rfl ?_
  have b4 := i_rng a0
  have b5 := i_rng a1
  refine R_isub rfl ?_
  refine N_any (fun x6 => ?_)
  refine R_istore_n (k := 3) rfl [(3, .inl x6), (0, .inl a0), (1, .inl a1), (2, .inl a2)] rfl rfl (by decide) ?_
  refine R_iload_n (k := 3) rfl rfl rfl ?_
  refine N_if_le (a := x6.toInt) 14 rfl rfl rfl (fun c7 => ?_) (fun c7 => ?_)
  · refine R_iconst 0 rfl rfl ?_
    exact R_iret rfl rfl rfl ⟨rfl, _, rfl, trivial⟩
  · refine R_iload_n (k := 3) rfl rfl rfl ?_
    refine R_iload_n (k := 2) rfl rfl rfl ?_
    have b8 := i_rng x6
    have b9 := i_rng a2
    refine R_iadd rfl ?_
    refine N_any (fun x10 => ?_)
    refine R_goto 15 rfl rfl ?_
    exact R_iret rfl rfl rfl ⟨rfl, _, rfl, trivial⟩
abbrev q_X6_noteSums (h : PH) (a2 : Int32) : Option PV → PH → Prop := fun r h' => INV h' ∧ FR [75, 83, 84, 85] h h' ∧ r = none
set_option maxHeartbeats 4000000 in
set_option maxRecDepth 100000 in
theorem k_X6_noteSums (h : PH) (hI : INV h) (a2 : Int32) (h2a : 0 ≤ a2.toInt ∧ a2.toInt ≤ 59) : CALL d_X6_noteSums [.inr (.inr (.inl 75)), .inr (.inr (.inl 16)), .inr (.inr (.inl 70)), .inl a2] h (q_X6_noteSums h a2) := by
  show RUN d_X6_noteSums 0 [(0, .inr (.inr (.inl 75))), (1, .inr (.inr (.inl 16))), (2, .inr (.inr (.inl 70))), (3, .inl a2)] [] h _
  have fr : FR [75, 83, 84, 85] h h := FR.rf _ _
  refine R_aload_n (k := 2) rfl rfl rfl ?_
  refine R_aload_n (k := 0) rfl rfl rfl ?_
  refine R_getf_r (j := 4) rfl ft_6_24 sh_75 rfl ?_
  refine R_iload_n (k := 3) rfl rfl rfl ?_
  refine R_iald rfl sh_80 ⟨by omega, by omega⟩ ?_
  refine N_any (fun x1 => ?_)
  refine R_callV (v := .inr (.inr (.inl 70))) (As := [.inl x1]) (rest := []) rfl mt_6_i100 pp_X2_isThrow (by decide) rfl rfl rfl (Nat.le_of_ble_eq_true rfl) (Nat.le_of_ble_eq_true rfl) ((k_X2_isThrow h hI x1).mono (fun r2 h3 p4 => ?_))
  obtain ⟨rfl, x5, rfl, q6 | q6 | q6⟩ := p4
  · have b7 : (0 : Int) ≤ (h.1 70 4).toInt ∧ (h.1 70 4).toInt ≤ 6 := hI.1 70 4
    show RUN d_X6_noteSums 10 [(0, .inr (.inr (.inl 75))), (1, .inr (.inr (.inl 16))), (2, .inr (.inr (.inl 70))), (3, .inl a2)] [.inl x5] h _
    refine R_istore (k := 4) [(4, .inl x5), (0, .inr (.inr (.inl 75))), (1, .inr (.inr (.inl 16))), (2, .inr (.inr (.inl 70))), (3, .inl a2)] rfl rfl (by decide) ?_
    refine R_iconst 0 rfl rfl ?_
    refine R_istore (k := 5) [(5, .inl 0), (4, .inl x5), (0, .inr (.inr (.inl 75))), (1, .inr (.inr (.inl 16))), (2, .inr (.inr (.inl 70))), (3, .inl a2)] rfl rfl (by decide) ?_
    refine R_iconst 0 rfl rfl ?_
    refine R_istore (k := 6) [(6, .inl 0), (5, .inl 0), (4, .inl x5), (0, .inr (.inr (.inl 75))), (1, .inr (.inr (.inl 16))), (2, .inr (.inr (.inl 70))), (3, .inl a2)] rfl rfl (by decide) ?_
    have lp9 : ∀ (n8 : Nat) (h10 : PH) (x12 : Int32) (x13 : Int32), INV h10 → FR [75, 83, 84, 85] h h10 → FR [83, 84, 85] h h10 → 0 ≤ x13.toInt ∧ x13.toInt ≤ 2147483647 → (2147483647 - x13.toInt).toNat < n8 → RUN d_X6_noteSums 18 [(6, .inl x13), (5, .inl x12), (4, .inl x5), (0, .inr (.inr (.inl 75))), (1, .inr (.inr (.inl 16))), (2, .inr (.inr (.inl 70))), (3, .inl a2)] [] h10 (q_X6_noteSums h a2) := by
      intro n8
      induction n8 with
      | zero => intro h10 x12 x13 m15 m16 m17 m18 hz; exact absurd hz (Nat.not_lt_zero _)
      | succ n8 ih14 =>
        intro h10 x12 x13 hI fr fl11 m18 hz
        have s19 : (h10.1 70 4).toInt = (h.1 70 4).toInt := by rw [(fl11 70 (by decide)).1]
        refine R_iload (k := 6) rfl rfl ?_
        refine R_bipush 6 rfl rfl ?_
        refine N_icmp_ge (a := x13.toInt) (b := 6) 57 rfl rfl rfl (by decide) (fun c20 => ?_) (fun c20 => ?_)
        · refine R_iload_n (k := 3) rfl rfl rfl ?_
          refine N_if_ne (a := a2.toInt) 71 rfl rfl rfl (fun c21 => ?_) (fun c21 => ?_)
          · refine R_aload_n (k := 0) rfl rfl rfl ?_
            refine R_getf_r (j := 9) rfl ft_6_39 sh_75 rfl ?_
            refine R_iload_n (k := 3) rfl rfl rfl ?_
            refine R_iconst 1 rfl rfl ?_
            refine N_isub (a := a2.toInt) (b := 1) rfl rfl (by decide) (by omega) (fun x22 q23 => ?_)
            refine R_iald rfl sh_85 ⟨by omega, by omega⟩ ?_
            refine N_any (fun x24 => ?_)
            refine R_istore (k := 6) [(6, .inl x24), (5, .inl x12), (4, .inl x5), (0, .inr (.inr (.inl 75))), (1, .inr (.inr (.inl 16))), (2, .inr (.inr (.inl 70))), (3, .inl a2)] rfl rfl (by decide) ?_
            refine R_aload_n (k := 0) rfl rfl rfl ?_
            refine R_getf_r (j := 7) rfl ft_6_33 sh_75 rfl ?_
            refine R_iload_n (k := 3) rfl rfl rfl ?_
            refine R_iload_n (k := 3) rfl rfl rfl ?_
            refine N_if_ne (a := a2.toInt) 94 rfl rfl rfl (fun c25 => ?_) (fun c25 => ?_)
            · refine R_aload_n (k := 0) rfl rfl rfl ?_
              refine R_getf_r (j := 7) rfl ft_6_33 sh_75 rfl ?_
              refine R_iload_n (k := 3) rfl rfl rfl ?_
              refine R_iconst 1 rfl rfl ?_
              refine N_isub (a := a2.toInt) (b := 1) rfl rfl (by decide) (by omega) (fun x26 q27 => ?_)
              refine R_iald rfl sh_83 ⟨by omega, by omega⟩ ?_
              refine N_any (fun x28 => ?_)
              refine R_iload (k := 4) rfl rfl ?_
              refine N_if_eq (a := x5.toInt) 111 rfl rfl rfl (fun c29 => ?_) (fun c29 => ?_)
              · refine R_iconst 0 rfl rfl ?_
                have b30 := i_rng x28
                refine N_iadd (a := x28.toInt) (b := 0) rfl rfl (by decide) (by omega) (fun x31 q32 => ?_)
                refine K_iast (a := a2.toInt) (lo := (-2147483648)) (hi' := 2147483647) rfl sh_83 rfl ⟨by omega, by omega⟩ hI (by decide) rfl (i_rng _) fr (by decide) (fun h33 g34 hI fr => ?_)
                have fl11 : FR [83, 84, 85] h h33 := by rw [g34]; exact FR_wI _ _ fl11 (by decide)
                have s35 : (h33.1 70 4).toInt = (h10.1 70 4).toInt := by rw [g34, wI_ne _ _ _ (by decide)]
                refine R_aload_n (k := 0) rfl rfl rfl ?_
                refine R_getf_r (j := 8) rfl ft_6_36 sh_75 rfl ?_
                refine R_iload_n (k := 3) rfl rfl rfl ?_
                refine R_iload_n (k := 3) rfl rfl rfl ?_
                refine N_if_ne (a := a2.toInt) 127 rfl rfl rfl (fun c36 => ?_) (fun c36 => ?_)
                · refine R_aload_n (k := 0) rfl rfl rfl ?_
                  refine R_getf_r (j := 8) rfl ft_6_36 sh_75 rfl ?_
                  refine R_iload_n (k := 3) rfl rfl rfl ?_
                  refine R_iconst 1 rfl rfl ?_
                  refine N_isub (a := a2.toInt) (b := 1) rfl rfl (by decide) (by omega) (fun x37 q38 => ?_)
                  refine R_iald rfl sh_84 ⟨by omega, by omega⟩ ?_
                  refine N_any (fun x39 => ?_)
                  refine R_iload (k := 5) rfl rfl ?_
                  have b40 := i_rng x39
                  have b41 := i_rng x12
                  refine R_iadd rfl ?_
                  refine N_any (fun x42 => ?_)
                  refine K_iast (a := a2.toInt) (lo := (-2147483648)) (hi' := 2147483647) rfl sh_84 rfl ⟨by omega, by omega⟩ hI (by decide) rfl (i_rng _) fr (by decide) (fun h43 g44 hI fr => ?_)
                  have fl11 : FR [83, 84, 85] h h43 := by rw [g44]; exact FR_wI _ _ fl11 (by decide)
                  have s45 : (h43.1 70 4).toInt = (h33.1 70 4).toInt := by rw [g44, wI_ne _ _ _ (by decide)]
                  refine R_aload_n (k := 0) rfl rfl rfl ?_
                  refine R_getf_r (j := 9) rfl ft_6_39 sh_75 rfl ?_
                  refine R_iload_n (k := 3) rfl rfl rfl ?_
                  refine R_iload (k := 6) rfl rfl ?_
                  refine R_iload (k := 4) rfl rfl ?_
                  refine N_if_eq (a := x5.toInt) 158 rfl rfl rfl (fun c46 => ?_) (fun c46 => ?_)
                  · refine R_iconst 0 rfl rfl ?_
                    refine R_aload_n (k := 1) rfl rfl rfl ?_
                    refine R_getf_r (j := 0) rfl ft_6_65 sh_16 rfl ?_
                    refine R_bipush 8 rfl rfl ?_
                    refine R_iald rfl sh_17 (by decide) ?_
                    show RUN d_X6_noteSums 166 [(6, .inl x24), (5, .inl x12), (4, .inl x5), (0, .inr (.inr (.inl 75))), (1, .inr (.inr (.inl 16))), (2, .inr (.inr (.inl 70))), (3, .inl a2)] [.inl (h43.1 17 8), .inl 0, .inl x24, .inl a2, .inr (.inr (.inl 85))] h43 _
                    have k47 : (0 : Int32).toInt = 0 := by decide
                    refine R_callS (As := [.inl x24, .inl 0, .inl (h43.1 17 8)]) (rest := [.inl a2, .inr (.inr (.inl 85))]) rfl mt_6_i111 (by decide) pp_X8_burnsOn (by decide) rfl rfl (Nat.le_of_ble_eq_true rfl) (Nat.le_of_ble_eq_true rfl) ((k_X8_burnsOn h43 hI x24 (0 : Int32) (h43.1 17 8)).mono (fun r48 h49 p50 => ?_))
                    obtain ⟨rfl, x51, rfl, q52⟩ := p50
                    show RUN d_X6_noteSums 169 [(6, .inl x24), (5, .inl x12), (4, .inl x5), (0, .inr (.inr (.inl 75))), (1, .inr (.inr (.inl 16))), (2, .inr (.inr (.inl 70))), (3, .inl a2)] [.inl x51, .inl a2, .inr (.inr (.inl 85))] h43 _
                    refine K_iast (a := a2.toInt) (lo := (-2147483648)) (hi' := 2147483647) rfl sh_85 rfl ⟨by omega, by omega⟩ hI (by decide) rfl (i_rng _) fr (by decide) (fun h53 g54 hI fr => ?_)
                    have fl11 : FR [83, 84, 85] h h53 := by rw [g54]; exact FR_wI _ _ fl11 (by decide)
                    have s55 : (h53.1 70 4).toInt = (h43.1 70 4).toInt := by rw [g54, wI_ne _ _ _ (by decide)]
                    have s56 : (h53.1 17 8).toInt = (h43.1 17 8).toInt := by rw [g54, wI_ne _ _ _ (by decide)]
                    refine R_iload (k := 4) rfl rfl ?_
                    refine N_if_eq (a := x5.toInt) 187 rfl rfl rfl (fun c57 => ?_) (fun c57 => ?_)
                    · exact R_vret rfl rfl ⟨hI, fr, rfl⟩
                    · exfalso; omega
                  · exfalso; omega
                · exfalso; omega
              · exfalso; omega
            · exfalso; omega
          · refine R_aload_n (k := 1) rfl rfl rfl ?_
            refine R_getf_r (j := 0) rfl ft_6_65 sh_16 rfl ?_
            refine R_bipush 7 rfl rfl ?_
            refine R_iald rfl sh_17 (by decide) ?_
            show RUN d_X6_noteSums 68 [(6, .inl x13), (5, .inl x12), (4, .inl x5), (0, .inr (.inr (.inl 75))), (1, .inr (.inr (.inl 16))), (2, .inr (.inr (.inl 70))), (3, .inl a2)] [.inl (h10.1 17 7)] h10 _
            refine R_goto 79 rfl rfl ?_
            refine R_istore (k := 6) [(6, .inl (h10.1 17 7)), (5, .inl x12), (4, .inl x5), (0, .inr (.inr (.inl 75))), (1, .inr (.inr (.inl 16))), (2, .inr (.inr (.inl 70))), (3, .inl a2)] rfl rfl (by decide) ?_
            refine R_aload_n (k := 0) rfl rfl rfl ?_
            refine R_getf_r (j := 7) rfl ft_6_33 sh_75 rfl ?_
            refine R_iload_n (k := 3) rfl rfl rfl ?_
            refine R_iload_n (k := 3) rfl rfl rfl ?_
            refine N_if_ne (a := a2.toInt) 94 rfl rfl rfl (fun c58 => ?_) (fun c58 => ?_)
            · exfalso; omega
            · refine R_iconst 0 rfl rfl ?_
              refine R_goto 102 rfl rfl ?_
              refine R_iload (k := 4) rfl rfl ?_
              refine N_if_eq (a := x5.toInt) 111 rfl rfl rfl (fun c59 => ?_) (fun c59 => ?_)
              · refine R_iconst 0 rfl rfl ?_
                refine N_iadd (a := 0) (b := 0) rfl (by decide) (by decide) (by omega) (fun x60 q61 => ?_)
                refine K_iast (a := a2.toInt) (lo := (-2147483648)) (hi' := 2147483647) rfl sh_83 rfl ⟨by omega, by omega⟩ hI (by decide) rfl (i_rng _) fr (by decide) (fun h62 g63 hI fr => ?_)
                have fl11 : FR [83, 84, 85] h h62 := by rw [g63]; exact FR_wI _ _ fl11 (by decide)
                have s64 : (h62.1 70 4).toInt = (h10.1 70 4).toInt := by rw [g63, wI_ne _ _ _ (by decide)]
                have s65 : (h62.1 17 7).toInt = (h10.1 17 7).toInt := by rw [g63, wI_ne _ _ _ (by decide)]
                refine R_aload_n (k := 0) rfl rfl rfl ?_
                refine R_getf_r (j := 8) rfl ft_6_36 sh_75 rfl ?_
                refine R_iload_n (k := 3) rfl rfl rfl ?_
                refine R_iload_n (k := 3) rfl rfl rfl ?_
                refine N_if_ne (a := a2.toInt) 127 rfl rfl rfl (fun c66 => ?_) (fun c66 => ?_)
                · exfalso; omega
                · refine R_iconst 0 rfl rfl ?_
                  refine R_goto 135 rfl rfl ?_
                  refine R_iload (k := 5) rfl rfl ?_
                  have b67 := i_rng x12
                  refine N_iadd (a := 0) (b := x12.toInt) rfl (by decide) rfl (by omega) (fun x68 q69 => ?_)
                  refine K_iast (a := a2.toInt) (lo := (-2147483648)) (hi' := 2147483647) rfl sh_84 rfl ⟨by omega, by omega⟩ hI (by decide) rfl (i_rng _) fr (by decide) (fun h70 g71 hI fr => ?_)
                  have fl11 : FR [83, 84, 85] h h70 := by rw [g71]; exact FR_wI _ _ fl11 (by decide)
                  have s72 : (h70.1 70 4).toInt = (h62.1 70 4).toInt := by rw [g71, wI_ne _ _ _ (by decide)]
                  have s73 : (h70.1 17 7).toInt = (h62.1 17 7).toInt := by rw [g71, wI_ne _ _ _ (by decide)]
                  refine R_aload_n (k := 0) rfl rfl rfl ?_
                  refine R_getf_r (j := 9) rfl ft_6_39 sh_75 rfl ?_
                  refine R_iload_n (k := 3) rfl rfl rfl ?_
                  refine R_iload (k := 6) rfl rfl ?_
                  refine R_iload (k := 4) rfl rfl ?_
                  refine N_if_eq (a := x5.toInt) 158 rfl rfl rfl (fun c74 => ?_) (fun c74 => ?_)
                  · refine R_iconst 0 rfl rfl ?_
                    refine R_aload_n (k := 1) rfl rfl rfl ?_
                    refine R_getf_r (j := 0) rfl ft_6_65 sh_16 rfl ?_
                    refine R_bipush 8 rfl rfl ?_
                    refine R_iald rfl sh_17 (by decide) ?_
                    show RUN d_X6_noteSums 166 [(6, .inl (h10.1 17 7)), (5, .inl x12), (4, .inl x5), (0, .inr (.inr (.inl 75))), (1, .inr (.inr (.inl 16))), (2, .inr (.inr (.inl 70))), (3, .inl a2)] [.inl (h70.1 17 8), .inl 0, .inl (h10.1 17 7), .inl a2, .inr (.inr (.inl 85))] h70 _
                    have k75 : (0 : Int32).toInt = 0 := by decide
                    refine R_callS (As := [.inl (h10.1 17 7), .inl 0, .inl (h70.1 17 8)]) (rest := [.inl a2, .inr (.inr (.inl 85))]) rfl mt_6_i111 (by decide) pp_X8_burnsOn (by decide) rfl rfl (Nat.le_of_ble_eq_true rfl) (Nat.le_of_ble_eq_true rfl) ((k_X8_burnsOn h70 hI (h10.1 17 7) (0 : Int32) (h70.1 17 8)).mono (fun r76 h77 p78 => ?_))
                    obtain ⟨rfl, x79, rfl, q80⟩ := p78
                    show RUN d_X6_noteSums 169 [(6, .inl (h10.1 17 7)), (5, .inl x12), (4, .inl x5), (0, .inr (.inr (.inl 75))), (1, .inr (.inr (.inl 16))), (2, .inr (.inr (.inl 70))), (3, .inl a2)] [.inl x79, .inl a2, .inr (.inr (.inl 85))] h70 _
                    refine K_iast (a := a2.toInt) (lo := (-2147483648)) (hi' := 2147483647) rfl sh_85 rfl ⟨by omega, by omega⟩ hI (by decide) rfl (i_rng _) fr (by decide) (fun h81 g82 hI fr => ?_)
                    have fl11 : FR [83, 84, 85] h h81 := by rw [g82]; exact FR_wI _ _ fl11 (by decide)
                    have s83 : (h81.1 70 4).toInt = (h70.1 70 4).toInt := by rw [g82, wI_ne _ _ _ (by decide)]
                    have s84 : (h81.1 17 7).toInt = (h70.1 17 7).toInt := by rw [g82, wI_ne _ _ _ (by decide)]
                    have s85 : (h81.1 17 8).toInt = (h70.1 17 8).toInt := by rw [g82, wI_ne _ _ _ (by decide)]
                    refine R_iload (k := 4) rfl rfl ?_
                    refine N_if_eq (a := x5.toInt) 187 rfl rfl rfl (fun c86 => ?_) (fun c86 => ?_)
                    · exact R_vret rfl rfl ⟨hI, fr, rfl⟩
                    · exfalso; omega
                  · exfalso; omega
              · exfalso; omega
        · refine R_aload_n (k := 0) rfl rfl rfl ?_
          refine R_getf_r (j := 4) rfl ft_6_24 sh_75 rfl ?_
          refine R_iload_n (k := 3) rfl rfl rfl ?_
          refine R_iald rfl sh_80 ⟨by omega, by omega⟩ ?_
          refine N_any (fun x87 => ?_)
          refine N_i2l rfl (fun w88 q89 => ?_)
          refine R_iload (k := 6) rfl rfl ?_
          refine R_callS (As := [.inr (.inl w88), .inl x13]) (rest := []) rfl mt_6_i104 (by decide) pp_X8_hasBit (by decide) rfl rfl (Nat.le_of_ble_eq_true rfl) (Nat.le_of_ble_eq_true rfl) ((k_X8_hasBit h10 hI w88 x13).mono (fun r90 h91 p92 => ?_))
          obtain ⟨rfl, x93, rfl, q94 | q94⟩ := p92
          · show RUN d_X6_noteSums 37 [(6, .inl x13), (5, .inl x12), (4, .inl x5), (0, .inr (.inr (.inl 75))), (1, .inr (.inr (.inl 16))), (2, .inr (.inr (.inl 70))), (3, .inl a2)] [.inl x93] h10 _
            refine N_if_eq (a := x93.toInt) 51 rfl rfl rfl (fun c95 => ?_) (fun c95 => ?_)
            · refine N_iinc (a := x13.toInt) (c := 1) (fun w => [(6, .inl w), (5, .inl x12), (4, .inl x5), (0, .inr (.inr (.inl 75))), (1, .inr (.inr (.inl 16))), (2, .inr (.inr (.inl 70))), (3, .inl a2)]) rfl rfl (fun _ => rfl) (by decide) rfl (by decide) (by omega) (fun x96 q97 => ?_)
              refine R_goto 18 rfl rfl ?_
              exact RUN_weak (psub_cons rfl (psub_cons rfl (psub_cons rfl (psub_cons rfl (psub_cons rfl (psub_cons rfl (psub_cons rfl (psub_nil _)))))))) (ih14 h10 x12 x96 hI fr fl11 (by omega) (by omega))
            · exfalso; omega
          · show RUN d_X6_noteSums 37 [(6, .inl x13), (5, .inl x12), (4, .inl x5), (0, .inr (.inr (.inl 75))), (1, .inr (.inr (.inl 16))), (2, .inr (.inr (.inl 70))), (3, .inl a2)] [.inl x93] h10 _
            refine N_if_eq (a := x93.toInt) 51 rfl rfl rfl (fun c98 => ?_) (fun c98 => ?_)
            · exfalso; omega
            · refine R_iload (k := 5) rfl rfl ?_
              refine R_aload_n (k := 0) rfl rfl rfl ?_
              refine R_iload (k := 6) rfl rfl ?_
              refine R_callV (v := .inr (.inr (.inl 75))) (As := [.inl x13]) (rest := [.inl x12]) rfl mt_6_i108 pp_X6_lossOf (by decide) rfl rfl rfl (Nat.le_of_ble_eq_true rfl) (Nat.le_of_ble_eq_true rfl) ((k_X6_lossOf h10 hI x13 (by omega)).mono (fun r99 h100 p101 => ?_))
              obtain ⟨rfl, x102, rfl, q103⟩ := p101
              show RUN d_X6_noteSums 48 [(6, .inl x13), (5, .inl x12), (4, .inl x5), (0, .inr (.inr (.inl 75))), (1, .inr (.inr (.inl 16))), (2, .inr (.inr (.inl 70))), (3, .inl a2)] [.inl x102, .inl x12] h10 _
              have b104 := i_rng x12
              have b105 := i_rng x102
              refine R_iadd rfl ?_
              refine N_any (fun x106 => ?_)
              refine R_istore (k := 5) [(5, .inl x106), (6, .inl x13), (4, .inl x5), (0, .inr (.inr (.inl 75))), (1, .inr (.inr (.inl 16))), (2, .inr (.inr (.inl 70))), (3, .inl a2)] rfl rfl (by decide) ?_
              refine N_iinc (a := x13.toInt) (c := 1) (fun w => [(6, .inl w), (5, .inl x106), (4, .inl x5), (0, .inr (.inr (.inl 75))), (1, .inr (.inr (.inl 16))), (2, .inr (.inr (.inl 70))), (3, .inl a2)]) rfl rfl (fun _ => rfl) (by decide) rfl (by decide) (by omega) (fun x107 q108 => ?_)
              refine R_goto 18 rfl rfl ?_
              exact RUN_weak (psub_cons rfl (psub_cons rfl (psub_cons rfl (psub_cons rfl (psub_cons rfl (psub_cons rfl (psub_cons rfl (psub_nil _)))))))) (ih14 h10 x106 x107 hI fr fl11 (by omega) (by omega))
    exact lp9 _ h (0 : Int32) (0 : Int32) hI fr (FR.rf _ _) (by decide) (Nat.lt_succ_self _)
  · have b109 : (0 : Int) ≤ (h.1 70 4).toInt ∧ (h.1 70 4).toInt ≤ 6 := hI.1 70 4
    show RUN d_X6_noteSums 10 [(0, .inr (.inr (.inl 75))), (1, .inr (.inr (.inl 16))), (2, .inr (.inr (.inl 70))), (3, .inl a2)] [.inl x5] h _
    refine R_istore (k := 4) [(4, .inl x5), (0, .inr (.inr (.inl 75))), (1, .inr (.inr (.inl 16))), (2, .inr (.inr (.inl 70))), (3, .inl a2)] rfl rfl (by decide) ?_
    refine R_iconst 0 rfl rfl ?_
    refine R_istore (k := 5) [(5, .inl 0), (4, .inl x5), (0, .inr (.inr (.inl 75))), (1, .inr (.inr (.inl 16))), (2, .inr (.inr (.inl 70))), (3, .inl a2)] rfl rfl (by decide) ?_
    refine R_iconst 0 rfl rfl ?_
    refine R_istore (k := 6) [(6, .inl 0), (5, .inl 0), (4, .inl x5), (0, .inr (.inr (.inl 75))), (1, .inr (.inr (.inl 16))), (2, .inr (.inr (.inl 70))), (3, .inl a2)] rfl rfl (by decide) ?_
    have lp111 : ∀ (n110 : Nat) (h112 : PH) (x114 : Int32) (x115 : Int32), INV h112 → FR [75, 83, 84, 85] h h112 → FR [83, 84, 85] h h112 → 0 ≤ x115.toInt ∧ x115.toInt ≤ 2147483647 → (2147483647 - x115.toInt).toNat < n110 → RUN d_X6_noteSums 18 [(6, .inl x115), (5, .inl x114), (4, .inl x5), (0, .inr (.inr (.inl 75))), (1, .inr (.inr (.inl 16))), (2, .inr (.inr (.inl 70))), (3, .inl a2)] [] h112 (q_X6_noteSums h a2) := by
      intro n110
      induction n110 with
      | zero => intro h112 x114 x115 m117 m118 m119 m120 hz; exact absurd hz (Nat.not_lt_zero _)
      | succ n110 ih116 =>
        intro h112 x114 x115 hI fr fl113 m120 hz
        have s121 : (h112.1 70 4).toInt = (h.1 70 4).toInt := by rw [(fl113 70 (by decide)).1]
        refine R_iload (k := 6) rfl rfl ?_
        refine R_bipush 6 rfl rfl ?_
        refine N_icmp_ge (a := x115.toInt) (b := 6) 57 rfl rfl rfl (by decide) (fun c122 => ?_) (fun c122 => ?_)
        · refine R_iload_n (k := 3) rfl rfl rfl ?_
          refine N_if_ne (a := a2.toInt) 71 rfl rfl rfl (fun c123 => ?_) (fun c123 => ?_)
          · refine R_aload_n (k := 0) rfl rfl rfl ?_
            refine R_getf_r (j := 9) rfl ft_6_39 sh_75 rfl ?_
            refine R_iload_n (k := 3) rfl rfl rfl ?_
            refine R_iconst 1 rfl rfl ?_
            refine N_isub (a := a2.toInt) (b := 1) rfl rfl (by decide) (by omega) (fun x124 q125 => ?_)
            refine R_iald rfl sh_85 ⟨by omega, by omega⟩ ?_
            refine N_any (fun x126 => ?_)
            refine R_istore (k := 6) [(6, .inl x126), (5, .inl x114), (4, .inl x5), (0, .inr (.inr (.inl 75))), (1, .inr (.inr (.inl 16))), (2, .inr (.inr (.inl 70))), (3, .inl a2)] rfl rfl (by decide) ?_
            refine R_aload_n (k := 0) rfl rfl rfl ?_
            refine R_getf_r (j := 7) rfl ft_6_33 sh_75 rfl ?_
            refine R_iload_n (k := 3) rfl rfl rfl ?_
            refine R_iload_n (k := 3) rfl rfl rfl ?_
            refine N_if_ne (a := a2.toInt) 94 rfl rfl rfl (fun c127 => ?_) (fun c127 => ?_)
            · refine R_aload_n (k := 0) rfl rfl rfl ?_
              refine R_getf_r (j := 7) rfl ft_6_33 sh_75 rfl ?_
              refine R_iload_n (k := 3) rfl rfl rfl ?_
              refine R_iconst 1 rfl rfl ?_
              refine N_isub (a := a2.toInt) (b := 1) rfl rfl (by decide) (by omega) (fun x128 q129 => ?_)
              refine R_iald rfl sh_83 ⟨by omega, by omega⟩ ?_
              refine N_any (fun x130 => ?_)
              refine R_iload (k := 4) rfl rfl ?_
              refine N_if_eq (a := x5.toInt) 111 rfl rfl rfl (fun c131 => ?_) (fun c131 => ?_)
              · refine R_iconst 0 rfl rfl ?_
                have b132 := i_rng x130
                refine N_iadd (a := x130.toInt) (b := 0) rfl rfl (by decide) (by omega) (fun x133 q134 => ?_)
                refine K_iast (a := a2.toInt) (lo := (-2147483648)) (hi' := 2147483647) rfl sh_83 rfl ⟨by omega, by omega⟩ hI (by decide) rfl (i_rng _) fr (by decide) (fun h135 g136 hI fr => ?_)
                have fl113 : FR [83, 84, 85] h h135 := by rw [g136]; exact FR_wI _ _ fl113 (by decide)
                have s137 : (h135.1 70 4).toInt = (h112.1 70 4).toInt := by rw [g136, wI_ne _ _ _ (by decide)]
                refine R_aload_n (k := 0) rfl rfl rfl ?_
                refine R_getf_r (j := 8) rfl ft_6_36 sh_75 rfl ?_
                refine R_iload_n (k := 3) rfl rfl rfl ?_
                refine R_iload_n (k := 3) rfl rfl rfl ?_
                refine N_if_ne (a := a2.toInt) 127 rfl rfl rfl (fun c138 => ?_) (fun c138 => ?_)
                · refine R_aload_n (k := 0) rfl rfl rfl ?_
                  refine R_getf_r (j := 8) rfl ft_6_36 sh_75 rfl ?_
                  refine R_iload_n (k := 3) rfl rfl rfl ?_
                  refine R_iconst 1 rfl rfl ?_
                  refine N_isub (a := a2.toInt) (b := 1) rfl rfl (by decide) (by omega) (fun x139 q140 => ?_)
                  refine R_iald rfl sh_84 ⟨by omega, by omega⟩ ?_
                  refine N_any (fun x141 => ?_)
                  refine R_iload (k := 5) rfl rfl ?_
                  have b142 := i_rng x141
                  have b143 := i_rng x114
                  refine R_iadd rfl ?_
                  refine N_any (fun x144 => ?_)
                  refine K_iast (a := a2.toInt) (lo := (-2147483648)) (hi' := 2147483647) rfl sh_84 rfl ⟨by omega, by omega⟩ hI (by decide) rfl (i_rng _) fr (by decide) (fun h145 g146 hI fr => ?_)
                  have fl113 : FR [83, 84, 85] h h145 := by rw [g146]; exact FR_wI _ _ fl113 (by decide)
                  have s147 : (h145.1 70 4).toInt = (h135.1 70 4).toInt := by rw [g146, wI_ne _ _ _ (by decide)]
                  refine R_aload_n (k := 0) rfl rfl rfl ?_
                  refine R_getf_r (j := 9) rfl ft_6_39 sh_75 rfl ?_
                  refine R_iload_n (k := 3) rfl rfl rfl ?_
                  refine R_iload (k := 6) rfl rfl ?_
                  refine R_iload (k := 4) rfl rfl ?_
                  refine N_if_eq (a := x5.toInt) 158 rfl rfl rfl (fun c148 => ?_) (fun c148 => ?_)
                  · refine R_iconst 0 rfl rfl ?_
                    refine R_aload_n (k := 1) rfl rfl rfl ?_
                    refine R_getf_r (j := 0) rfl ft_6_65 sh_16 rfl ?_
                    refine R_bipush 8 rfl rfl ?_
                    refine R_iald rfl sh_17 (by decide) ?_
                    show RUN d_X6_noteSums 166 [(6, .inl x126), (5, .inl x114), (4, .inl x5), (0, .inr (.inr (.inl 75))), (1, .inr (.inr (.inl 16))), (2, .inr (.inr (.inl 70))), (3, .inl a2)] [.inl (h145.1 17 8), .inl 0, .inl x126, .inl a2, .inr (.inr (.inl 85))] h145 _
                    have k149 : (0 : Int32).toInt = 0 := by decide
                    refine R_callS (As := [.inl x126, .inl 0, .inl (h145.1 17 8)]) (rest := [.inl a2, .inr (.inr (.inl 85))]) rfl mt_6_i111 (by decide) pp_X8_burnsOn (by decide) rfl rfl (Nat.le_of_ble_eq_true rfl) (Nat.le_of_ble_eq_true rfl) ((k_X8_burnsOn h145 hI x126 (0 : Int32) (h145.1 17 8)).mono (fun r150 h151 p152 => ?_))
                    obtain ⟨rfl, x153, rfl, q154⟩ := p152
                    show RUN d_X6_noteSums 169 [(6, .inl x126), (5, .inl x114), (4, .inl x5), (0, .inr (.inr (.inl 75))), (1, .inr (.inr (.inl 16))), (2, .inr (.inr (.inl 70))), (3, .inl a2)] [.inl x153, .inl a2, .inr (.inr (.inl 85))] h145 _
                    refine K_iast (a := a2.toInt) (lo := (-2147483648)) (hi' := 2147483647) rfl sh_85 rfl ⟨by omega, by omega⟩ hI (by decide) rfl (i_rng _) fr (by decide) (fun h155 g156 hI fr => ?_)
                    have fl113 : FR [83, 84, 85] h h155 := by rw [g156]; exact FR_wI _ _ fl113 (by decide)
                    have s157 : (h155.1 70 4).toInt = (h145.1 70 4).toInt := by rw [g156, wI_ne _ _ _ (by decide)]
                    have s158 : (h155.1 17 8).toInt = (h145.1 17 8).toInt := by rw [g156, wI_ne _ _ _ (by decide)]
                    refine R_iload (k := 4) rfl rfl ?_
                    refine N_if_eq (a := x5.toInt) 187 rfl rfl rfl (fun c159 => ?_) (fun c159 => ?_)
                    · exact R_vret rfl rfl ⟨hI, fr, rfl⟩
                    · exfalso; omega
                  · exfalso; omega
                · exfalso; omega
              · exfalso; omega
            · exfalso; omega
          · refine R_aload_n (k := 1) rfl rfl rfl ?_
            refine R_getf_r (j := 0) rfl ft_6_65 sh_16 rfl ?_
            refine R_bipush 7 rfl rfl ?_
            refine R_iald rfl sh_17 (by decide) ?_
            show RUN d_X6_noteSums 68 [(6, .inl x115), (5, .inl x114), (4, .inl x5), (0, .inr (.inr (.inl 75))), (1, .inr (.inr (.inl 16))), (2, .inr (.inr (.inl 70))), (3, .inl a2)] [.inl (h112.1 17 7)] h112 _
            refine R_goto 79 rfl rfl ?_
            refine R_istore (k := 6) [(6, .inl (h112.1 17 7)), (5, .inl x114), (4, .inl x5), (0, .inr (.inr (.inl 75))), (1, .inr (.inr (.inl 16))), (2, .inr (.inr (.inl 70))), (3, .inl a2)] rfl rfl (by decide) ?_
            refine R_aload_n (k := 0) rfl rfl rfl ?_
            refine R_getf_r (j := 7) rfl ft_6_33 sh_75 rfl ?_
            refine R_iload_n (k := 3) rfl rfl rfl ?_
            refine R_iload_n (k := 3) rfl rfl rfl ?_
            refine N_if_ne (a := a2.toInt) 94 rfl rfl rfl (fun c160 => ?_) (fun c160 => ?_)
            · exfalso; omega
            · refine R_iconst 0 rfl rfl ?_
              refine R_goto 102 rfl rfl ?_
              refine R_iload (k := 4) rfl rfl ?_
              refine N_if_eq (a := x5.toInt) 111 rfl rfl rfl (fun c161 => ?_) (fun c161 => ?_)
              · refine R_iconst 0 rfl rfl ?_
                refine N_iadd (a := 0) (b := 0) rfl (by decide) (by decide) (by omega) (fun x162 q163 => ?_)
                refine K_iast (a := a2.toInt) (lo := (-2147483648)) (hi' := 2147483647) rfl sh_83 rfl ⟨by omega, by omega⟩ hI (by decide) rfl (i_rng _) fr (by decide) (fun h164 g165 hI fr => ?_)
                have fl113 : FR [83, 84, 85] h h164 := by rw [g165]; exact FR_wI _ _ fl113 (by decide)
                have s166 : (h164.1 70 4).toInt = (h112.1 70 4).toInt := by rw [g165, wI_ne _ _ _ (by decide)]
                have s167 : (h164.1 17 7).toInt = (h112.1 17 7).toInt := by rw [g165, wI_ne _ _ _ (by decide)]
                refine R_aload_n (k := 0) rfl rfl rfl ?_
                refine R_getf_r (j := 8) rfl ft_6_36 sh_75 rfl ?_
                refine R_iload_n (k := 3) rfl rfl rfl ?_
                refine R_iload_n (k := 3) rfl rfl rfl ?_
                refine N_if_ne (a := a2.toInt) 127 rfl rfl rfl (fun c168 => ?_) (fun c168 => ?_)
                · exfalso; omega
                · refine R_iconst 0 rfl rfl ?_
                  refine R_goto 135 rfl rfl ?_
                  refine R_iload (k := 5) rfl rfl ?_
                  have b169 := i_rng x114
                  refine N_iadd (a := 0) (b := x114.toInt) rfl (by decide) rfl (by omega) (fun x170 q171 => ?_)
                  refine K_iast (a := a2.toInt) (lo := (-2147483648)) (hi' := 2147483647) rfl sh_84 rfl ⟨by omega, by omega⟩ hI (by decide) rfl (i_rng _) fr (by decide) (fun h172 g173 hI fr => ?_)
                  have fl113 : FR [83, 84, 85] h h172 := by rw [g173]; exact FR_wI _ _ fl113 (by decide)
                  have s174 : (h172.1 70 4).toInt = (h164.1 70 4).toInt := by rw [g173, wI_ne _ _ _ (by decide)]
                  have s175 : (h172.1 17 7).toInt = (h164.1 17 7).toInt := by rw [g173, wI_ne _ _ _ (by decide)]
                  refine R_aload_n (k := 0) rfl rfl rfl ?_
                  refine R_getf_r (j := 9) rfl ft_6_39 sh_75 rfl ?_
                  refine R_iload_n (k := 3) rfl rfl rfl ?_
                  refine R_iload (k := 6) rfl rfl ?_
                  refine R_iload (k := 4) rfl rfl ?_
                  refine N_if_eq (a := x5.toInt) 158 rfl rfl rfl (fun c176 => ?_) (fun c176 => ?_)
                  · refine R_iconst 0 rfl rfl ?_
                    refine R_aload_n (k := 1) rfl rfl rfl ?_
                    refine R_getf_r (j := 0) rfl ft_6_65 sh_16 rfl ?_
                    refine R_bipush 8 rfl rfl ?_
                    refine R_iald rfl sh_17 (by decide) ?_
                    show RUN d_X6_noteSums 166 [(6, .inl (h112.1 17 7)), (5, .inl x114), (4, .inl x5), (0, .inr (.inr (.inl 75))), (1, .inr (.inr (.inl 16))), (2, .inr (.inr (.inl 70))), (3, .inl a2)] [.inl (h172.1 17 8), .inl 0, .inl (h112.1 17 7), .inl a2, .inr (.inr (.inl 85))] h172 _
                    have k177 : (0 : Int32).toInt = 0 := by decide
                    refine R_callS (As := [.inl (h112.1 17 7), .inl 0, .inl (h172.1 17 8)]) (rest := [.inl a2, .inr (.inr (.inl 85))]) rfl mt_6_i111 (by decide) pp_X8_burnsOn (by decide) rfl rfl (Nat.le_of_ble_eq_true rfl) (Nat.le_of_ble_eq_true rfl) ((k_X8_burnsOn h172 hI (h112.1 17 7) (0 : Int32) (h172.1 17 8)).mono (fun r178 h179 p180 => ?_))
                    obtain ⟨rfl, x181, rfl, q182⟩ := p180
                    show RUN d_X6_noteSums 169 [(6, .inl (h112.1 17 7)), (5, .inl x114), (4, .inl x5), (0, .inr (.inr (.inl 75))), (1, .inr (.inr (.inl 16))), (2, .inr (.inr (.inl 70))), (3, .inl a2)] [.inl x181, .inl a2, .inr (.inr (.inl 85))] h172 _
                    refine K_iast (a := a2.toInt) (lo := (-2147483648)) (hi' := 2147483647) rfl sh_85 rfl ⟨by omega, by omega⟩ hI (by decide) rfl (i_rng _) fr (by decide) (fun h183 g184 hI fr => ?_)
                    have fl113 : FR [83, 84, 85] h h183 := by rw [g184]; exact FR_wI _ _ fl113 (by decide)
                    have s185 : (h183.1 70 4).toInt = (h172.1 70 4).toInt := by rw [g184, wI_ne _ _ _ (by decide)]
                    have s186 : (h183.1 17 7).toInt = (h172.1 17 7).toInt := by rw [g184, wI_ne _ _ _ (by decide)]
                    have s187 : (h183.1 17 8).toInt = (h172.1 17 8).toInt := by rw [g184, wI_ne _ _ _ (by decide)]
                    refine R_iload (k := 4) rfl rfl ?_
                    refine N_if_eq (a := x5.toInt) 187 rfl rfl rfl (fun c188 => ?_) (fun c188 => ?_)
                    · exact R_vret rfl rfl ⟨hI, fr, rfl⟩
                    · exfalso; omega
                  · exfalso; omega
              · exfalso; omega
        · refine R_aload_n (k := 0) rfl rfl rfl ?_
          refine R_getf_r (j := 4) rfl ft_6_24 sh_75 rfl ?_
          refine R_iload_n (k := 3) rfl rfl rfl ?_
          refine R_iald rfl sh_80 ⟨by omega, by omega⟩ ?_
          refine N_any (fun x189 => ?_)
          refine N_i2l rfl (fun w190 q191 => ?_)
          refine R_iload (k := 6) rfl rfl ?_
          refine R_callS (As := [.inr (.inl w190), .inl x115]) (rest := []) rfl mt_6_i104 (by decide) pp_X8_hasBit (by decide) rfl rfl (Nat.le_of_ble_eq_true rfl) (Nat.le_of_ble_eq_true rfl) ((k_X8_hasBit h112 hI w190 x115).mono (fun r192 h193 p194 => ?_))
          obtain ⟨rfl, x195, rfl, q196 | q196⟩ := p194
          · show RUN d_X6_noteSums 37 [(6, .inl x115), (5, .inl x114), (4, .inl x5), (0, .inr (.inr (.inl 75))), (1, .inr (.inr (.inl 16))), (2, .inr (.inr (.inl 70))), (3, .inl a2)] [.inl x195] h112 _
            refine N_if_eq (a := x195.toInt) 51 rfl rfl rfl (fun c197 => ?_) (fun c197 => ?_)
            · refine N_iinc (a := x115.toInt) (c := 1) (fun w => [(6, .inl w), (5, .inl x114), (4, .inl x5), (0, .inr (.inr (.inl 75))), (1, .inr (.inr (.inl 16))), (2, .inr (.inr (.inl 70))), (3, .inl a2)]) rfl rfl (fun _ => rfl) (by decide) rfl (by decide) (by omega) (fun x198 q199 => ?_)
              refine R_goto 18 rfl rfl ?_
              exact RUN_weak (psub_cons rfl (psub_cons rfl (psub_cons rfl (psub_cons rfl (psub_cons rfl (psub_cons rfl (psub_cons rfl (psub_nil _)))))))) (ih116 h112 x114 x198 hI fr fl113 (by omega) (by omega))
            · exfalso; omega
          · show RUN d_X6_noteSums 37 [(6, .inl x115), (5, .inl x114), (4, .inl x5), (0, .inr (.inr (.inl 75))), (1, .inr (.inr (.inl 16))), (2, .inr (.inr (.inl 70))), (3, .inl a2)] [.inl x195] h112 _
            refine N_if_eq (a := x195.toInt) 51 rfl rfl rfl (fun c200 => ?_) (fun c200 => ?_)
            · exfalso; omega
            · refine R_iload (k := 5) rfl rfl ?_
              refine R_aload_n (k := 0) rfl rfl rfl ?_
              refine R_iload (k := 6) rfl rfl ?_
              refine R_callV (v := .inr (.inr (.inl 75))) (As := [.inl x115]) (rest := [.inl x114]) rfl mt_6_i108 pp_X6_lossOf (by decide) rfl rfl rfl (Nat.le_of_ble_eq_true rfl) (Nat.le_of_ble_eq_true rfl) ((k_X6_lossOf h112 hI x115 (by omega)).mono (fun r201 h202 p203 => ?_))
              obtain ⟨rfl, x204, rfl, q205⟩ := p203
              show RUN d_X6_noteSums 48 [(6, .inl x115), (5, .inl x114), (4, .inl x5), (0, .inr (.inr (.inl 75))), (1, .inr (.inr (.inl 16))), (2, .inr (.inr (.inl 70))), (3, .inl a2)] [.inl x204, .inl x114] h112 _
              have b206 := i_rng x114
              have b207 := i_rng x204
              refine R_iadd rfl ?_
              refine N_any (fun x208 => ?_)
              refine R_istore (k := 5) [(5, .inl x208), (6, .inl x115), (4, .inl x5), (0, .inr (.inr (.inl 75))), (1, .inr (.inr (.inl 16))), (2, .inr (.inr (.inl 70))), (3, .inl a2)] rfl rfl (by decide) ?_
              refine N_iinc (a := x115.toInt) (c := 1) (fun w => [(6, .inl w), (5, .inl x208), (4, .inl x5), (0, .inr (.inr (.inl 75))), (1, .inr (.inr (.inl 16))), (2, .inr (.inr (.inl 70))), (3, .inl a2)]) rfl rfl (fun _ => rfl) (by decide) rfl (by decide) (by omega) (fun x209 q210 => ?_)
              refine R_goto 18 rfl rfl ?_
              exact RUN_weak (psub_cons rfl (psub_cons rfl (psub_cons rfl (psub_cons rfl (psub_cons rfl (psub_cons rfl (psub_cons rfl (psub_nil _)))))))) (ih116 h112 x208 x209 hI fr fl113 (by omega) (by omega))
    exact lp111 _ h (0 : Int32) (0 : Int32) hI fr (FR.rf _ _) (by decide) (Nat.lt_succ_self _)
  · have b211 : (0 : Int) ≤ (h.1 70 4).toInt ∧ (h.1 70 4).toInt ≤ 6 := hI.1 70 4
    show RUN d_X6_noteSums 10 [(0, .inr (.inr (.inl 75))), (1, .inr (.inr (.inl 16))), (2, .inr (.inr (.inl 70))), (3, .inl a2)] [.inl x5] h _
    refine R_istore (k := 4) [(4, .inl x5), (0, .inr (.inr (.inl 75))), (1, .inr (.inr (.inl 16))), (2, .inr (.inr (.inl 70))), (3, .inl a2)] rfl rfl (by decide) ?_
    refine R_iconst 0 rfl rfl ?_
    refine R_istore (k := 5) [(5, .inl 0), (4, .inl x5), (0, .inr (.inr (.inl 75))), (1, .inr (.inr (.inl 16))), (2, .inr (.inr (.inl 70))), (3, .inl a2)] rfl rfl (by decide) ?_
    refine R_iconst 0 rfl rfl ?_
    refine R_istore (k := 6) [(6, .inl 0), (5, .inl 0), (4, .inl x5), (0, .inr (.inr (.inl 75))), (1, .inr (.inr (.inl 16))), (2, .inr (.inr (.inl 70))), (3, .inl a2)] rfl rfl (by decide) ?_
    have lp213 : ∀ (n212 : Nat) (h214 : PH) (x216 : Int32) (x217 : Int32), INV h214 → FR [75, 83, 84, 85] h h214 → FR [75, 83, 84, 85] h h214 → 0 ≤ x217.toInt ∧ x217.toInt ≤ 2147483647 → (2147483647 - x217.toInt).toNat < n212 → RUN d_X6_noteSums 18 [(6, .inl x217), (5, .inl x216), (4, .inl x5), (0, .inr (.inr (.inl 75))), (1, .inr (.inr (.inl 16))), (2, .inr (.inr (.inl 70))), (3, .inl a2)] [] h214 (q_X6_noteSums h a2) := by
      intro n212
      induction n212 with
      | zero => intro h214 x216 x217 m219 m220 m221 m222 hz; exact absurd hz (Nat.not_lt_zero _)
      | succ n212 ih218 =>
        intro h214 x216 x217 hI fr fl215 m222 hz
        have s223 : (h214.1 70 4).toInt = (h.1 70 4).toInt := by rw [(fl215 70 (by decide)).1]
        refine R_iload (k := 6) rfl rfl ?_
        refine R_bipush 6 rfl rfl ?_
        refine N_icmp_ge (a := x217.toInt) (b := 6) 57 rfl rfl rfl (by decide) (fun c224 => ?_) (fun c224 => ?_)
        · refine R_iload_n (k := 3) rfl rfl rfl ?_
          refine N_if_ne (a := a2.toInt) 71 rfl rfl rfl (fun c225 => ?_) (fun c225 => ?_)
          · refine R_aload_n (k := 0) rfl rfl rfl ?_
            refine R_getf_r (j := 9) rfl ft_6_39 sh_75 rfl ?_
            refine R_iload_n (k := 3) rfl rfl rfl ?_
            refine R_iconst 1 rfl rfl ?_
            refine N_isub (a := a2.toInt) (b := 1) rfl rfl (by decide) (by omega) (fun x226 q227 => ?_)
            refine R_iald rfl sh_85 ⟨by omega, by omega⟩ ?_
            refine N_any (fun x228 => ?_)
            refine R_istore (k := 6) [(6, .inl x228), (5, .inl x216), (4, .inl x5), (0, .inr (.inr (.inl 75))), (1, .inr (.inr (.inl 16))), (2, .inr (.inr (.inl 70))), (3, .inl a2)] rfl rfl (by decide) ?_
            refine R_aload_n (k := 0) rfl rfl rfl ?_
            refine R_getf_r (j := 7) rfl ft_6_33 sh_75 rfl ?_
            refine R_iload_n (k := 3) rfl rfl rfl ?_
            refine R_iload_n (k := 3) rfl rfl rfl ?_
            refine N_if_ne (a := a2.toInt) 94 rfl rfl rfl (fun c229 => ?_) (fun c229 => ?_)
            · refine R_aload_n (k := 0) rfl rfl rfl ?_
              refine R_getf_r (j := 7) rfl ft_6_33 sh_75 rfl ?_
              refine R_iload_n (k := 3) rfl rfl rfl ?_
              refine R_iconst 1 rfl rfl ?_
              refine N_isub (a := a2.toInt) (b := 1) rfl rfl (by decide) (by omega) (fun x230 q231 => ?_)
              refine R_iald rfl sh_83 ⟨by omega, by omega⟩ ?_
              refine N_any (fun x232 => ?_)
              refine R_iload (k := 4) rfl rfl ?_
              refine N_if_eq (a := x5.toInt) 111 rfl rfl rfl (fun c233 => ?_) (fun c233 => ?_)
              · exfalso; omega
              · refine R_iconst 1 rfl rfl ?_
                refine R_goto 112 rfl rfl ?_
                have b234 := i_rng x232
                refine R_iadd rfl ?_
                refine N_any (fun x235 => ?_)
                refine K_iast (a := a2.toInt) (lo := (-2147483648)) (hi' := 2147483647) rfl sh_83 rfl ⟨by omega, by omega⟩ hI (by decide) rfl (i_rng _) fr (by decide) (fun h236 g237 hI fr => ?_)
                have fl215 : FR [75, 83, 84, 85] h h236 := by rw [g237]; exact FR_wI _ _ fl215 (by decide)
                have s238 : (h236.1 70 4).toInt = (h214.1 70 4).toInt := by rw [g237, wI_ne _ _ _ (by decide)]
                refine R_aload_n (k := 0) rfl rfl rfl ?_
                refine R_getf_r (j := 8) rfl ft_6_36 sh_75 rfl ?_
                refine R_iload_n (k := 3) rfl rfl rfl ?_
                refine R_iload_n (k := 3) rfl rfl rfl ?_
                refine N_if_ne (a := a2.toInt) 127 rfl rfl rfl (fun c239 => ?_) (fun c239 => ?_)
                · refine R_aload_n (k := 0) rfl rfl rfl ?_
                  refine R_getf_r (j := 8) rfl ft_6_36 sh_75 rfl ?_
                  refine R_iload_n (k := 3) rfl rfl rfl ?_
                  refine R_iconst 1 rfl rfl ?_
                  refine N_isub (a := a2.toInt) (b := 1) rfl rfl (by decide) (by omega) (fun x240 q241 => ?_)
                  refine R_iald rfl sh_84 ⟨by omega, by omega⟩ ?_
                  refine N_any (fun x242 => ?_)
                  refine R_iload (k := 5) rfl rfl ?_
                  have b243 := i_rng x242
                  have b244 := i_rng x216
                  refine R_iadd rfl ?_
                  refine N_any (fun x245 => ?_)
                  refine K_iast (a := a2.toInt) (lo := (-2147483648)) (hi' := 2147483647) rfl sh_84 rfl ⟨by omega, by omega⟩ hI (by decide) rfl (i_rng _) fr (by decide) (fun h246 g247 hI fr => ?_)
                  have fl215 : FR [75, 83, 84, 85] h h246 := by rw [g247]; exact FR_wI _ _ fl215 (by decide)
                  have s248 : (h246.1 70 4).toInt = (h236.1 70 4).toInt := by rw [g247, wI_ne _ _ _ (by decide)]
                  refine R_aload_n (k := 0) rfl rfl rfl ?_
                  refine R_getf_r (j := 9) rfl ft_6_39 sh_75 rfl ?_
                  refine R_iload_n (k := 3) rfl rfl rfl ?_
                  refine R_iload (k := 6) rfl rfl ?_
                  refine R_iload (k := 4) rfl rfl ?_
                  refine N_if_eq (a := x5.toInt) 158 rfl rfl rfl (fun c249 => ?_) (fun c249 => ?_)
                  · exfalso; omega
                  · refine R_aload_n (k := 0) rfl rfl rfl ?_
                    refine R_getf_i (j := 12) rfl ft_6_49 sh_75 rfl ?_
                    refine R_goto 159 rfl rfl ?_
                    refine R_aload_n (k := 1) rfl rfl rfl ?_
                    refine R_getf_r (j := 0) rfl ft_6_65 sh_16 rfl ?_
                    refine R_bipush 8 rfl rfl ?_
                    refine R_iald rfl sh_17 (by decide) ?_
                    show RUN d_X6_noteSums 166 [(6, .inl x228), (5, .inl x216), (4, .inl x5), (0, .inr (.inr (.inl 75))), (1, .inr (.inr (.inl 16))), (2, .inr (.inr (.inl 70))), (3, .inl a2)] [.inl (h246.1 17 8), .inl (h246.1 75 12), .inl x228, .inl a2, .inr (.inr (.inl 85))] h246 _
                    refine R_callS (As := [.inl x228, .inl (h246.1 75 12), .inl (h246.1 17 8)]) (rest := [.inl a2, .inr (.inr (.inl 85))]) rfl mt_6_i111 (by decide) pp_X8_burnsOn (by decide) rfl rfl (Nat.le_of_ble_eq_true rfl) (Nat.le_of_ble_eq_true rfl) ((k_X8_burnsOn h246 hI x228 (h246.1 75 12) (h246.1 17 8)).mono (fun r250 h251 p252 => ?_))
                    obtain ⟨rfl, x253, rfl, q254⟩ := p252
                    show RUN d_X6_noteSums 169 [(6, .inl x228), (5, .inl x216), (4, .inl x5), (0, .inr (.inr (.inl 75))), (1, .inr (.inr (.inl 16))), (2, .inr (.inr (.inl 70))), (3, .inl a2)] [.inl x253, .inl a2, .inr (.inr (.inl 85))] h246 _
                    refine K_iast (a := a2.toInt) (lo := (-2147483648)) (hi' := 2147483647) rfl sh_85 rfl ⟨by omega, by omega⟩ hI (by decide) rfl (i_rng _) fr (by decide) (fun h255 g256 hI fr => ?_)
                    have fl215 : FR [75, 83, 84, 85] h h255 := by rw [g256]; exact FR_wI _ _ fl215 (by decide)
                    have s257 : (h255.1 70 4).toInt = (h246.1 70 4).toInt := by rw [g256, wI_ne _ _ _ (by decide)]
                    have s258 : (h255.1 75 12).toInt = (h246.1 75 12).toInt := by rw [g256, wI_ne _ _ _ (by decide)]
                    have s259 : (h255.1 17 8).toInt = (h246.1 17 8).toInt := by rw [g256, wI_ne _ _ _ (by decide)]
                    refine R_iload (k := 4) rfl rfl ?_
                    refine N_if_eq (a := x5.toInt) 187 rfl rfl rfl (fun c260 => ?_) (fun c260 => ?_)
                    · exfalso; omega
                    · refine R_aload_n (k := 0) rfl rfl rfl ?_
                      refine R_dup_r rfl ?_
                      refine R_getf_l (j := 11) rfl ft_6_45 sh_75 rfl ?_
                      refine N_anyL (fun w261 => ?_)
                      refine R_lconst 1 rfl rfl ?_
                      refine R_iload_n (k := 3) rfl rfl rfl ?_
                      refine R_lshl rfl ?_
                      refine N_anyL (fun w262 => ?_)
                      refine R_lor rfl ?_
                      refine N_anyL (fun w263 => ?_)
                      refine K_putl (j := 11) rfl ft_6_45 sh_75 rfl hI fr (by decide) (fun h264 g265 hI fr => ?_)
                      have fl215 : FR [75, 83, 84, 85] h h264 := by rw [g265]; exact FR_wL _ _ fl215 (by decide)
                      have s266 : (h264.1 70 4).toInt = (h255.1 70 4).toInt := by rw [g265, wL_fst]
                      have s267 : (h264.1 75 12).toInt = (h255.1 75 12).toInt := by rw [g265, wL_fst]
                      have s268 : (h264.1 17 8).toInt = (h255.1 17 8).toInt := by rw [g265, wL_fst]
                      exact R_vret rfl rfl ⟨hI, fr, rfl⟩
                · exfalso; omega
            · exfalso; omega
          · refine R_aload_n (k := 1) rfl rfl rfl ?_
            refine R_getf_r (j := 0) rfl ft_6_65 sh_16 rfl ?_
            refine R_bipush 7 rfl rfl ?_
            refine R_iald rfl sh_17 (by decide) ?_
            show RUN d_X6_noteSums 68 [(6, .inl x217), (5, .inl x216), (4, .inl x5), (0, .inr (.inr (.inl 75))), (1, .inr (.inr (.inl 16))), (2, .inr (.inr (.inl 70))), (3, .inl a2)] [.inl (h214.1 17 7)] h214 _
            refine R_goto 79 rfl rfl ?_
            refine R_istore (k := 6) [(6, .inl (h214.1 17 7)), (5, .inl x216), (4, .inl x5), (0, .inr (.inr (.inl 75))), (1, .inr (.inr (.inl 16))), (2, .inr (.inr (.inl 70))), (3, .inl a2)] rfl rfl (by decide) ?_
            refine R_aload_n (k := 0) rfl rfl rfl ?_
            refine R_getf_r (j := 7) rfl ft_6_33 sh_75 rfl ?_
            refine R_iload_n (k := 3) rfl rfl rfl ?_
            refine R_iload_n (k := 3) rfl rfl rfl ?_
            refine N_if_ne (a := a2.toInt) 94 rfl rfl rfl (fun c269 => ?_) (fun c269 => ?_)
            · exfalso; omega
            · refine R_iconst 0 rfl rfl ?_
              refine R_goto 102 rfl rfl ?_
              refine R_iload (k := 4) rfl rfl ?_
              refine N_if_eq (a := x5.toInt) 111 rfl rfl rfl (fun c270 => ?_) (fun c270 => ?_)
              · exfalso; omega
              · refine R_iconst 1 rfl rfl ?_
                refine R_goto 112 rfl rfl ?_
                refine N_iadd (a := 0) (b := 1) rfl (by decide) (by decide) (by omega) (fun x271 q272 => ?_)
                refine K_iast (a := a2.toInt) (lo := (-2147483648)) (hi' := 2147483647) rfl sh_83 rfl ⟨by omega, by omega⟩ hI (by decide) rfl (i_rng _) fr (by decide) (fun h273 g274 hI fr => ?_)
                have fl215 : FR [75, 83, 84, 85] h h273 := by rw [g274]; exact FR_wI _ _ fl215 (by decide)
                have s275 : (h273.1 70 4).toInt = (h214.1 70 4).toInt := by rw [g274, wI_ne _ _ _ (by decide)]
                have s276 : (h273.1 17 7).toInt = (h214.1 17 7).toInt := by rw [g274, wI_ne _ _ _ (by decide)]
                refine R_aload_n (k := 0) rfl rfl rfl ?_
                refine R_getf_r (j := 8) rfl ft_6_36 sh_75 rfl ?_
                refine R_iload_n (k := 3) rfl rfl rfl ?_
                refine R_iload_n (k := 3) rfl rfl rfl ?_
                refine N_if_ne (a := a2.toInt) 127 rfl rfl rfl (fun c277 => ?_) (fun c277 => ?_)
                · exfalso; omega
                · refine R_iconst 0 rfl rfl ?_
                  refine R_goto 135 rfl rfl ?_
                  refine R_iload (k := 5) rfl rfl ?_
                  have b278 := i_rng x216
                  refine N_iadd (a := 0) (b := x216.toInt) rfl (by decide) rfl (by omega) (fun x279 q280 => ?_)
                  refine K_iast (a := a2.toInt) (lo := (-2147483648)) (hi' := 2147483647) rfl sh_84 rfl ⟨by omega, by omega⟩ hI (by decide) rfl (i_rng _) fr (by decide) (fun h281 g282 hI fr => ?_)
                  have fl215 : FR [75, 83, 84, 85] h h281 := by rw [g282]; exact FR_wI _ _ fl215 (by decide)
                  have s283 : (h281.1 70 4).toInt = (h273.1 70 4).toInt := by rw [g282, wI_ne _ _ _ (by decide)]
                  have s284 : (h281.1 17 7).toInt = (h273.1 17 7).toInt := by rw [g282, wI_ne _ _ _ (by decide)]
                  refine R_aload_n (k := 0) rfl rfl rfl ?_
                  refine R_getf_r (j := 9) rfl ft_6_39 sh_75 rfl ?_
                  refine R_iload_n (k := 3) rfl rfl rfl ?_
                  refine R_iload (k := 6) rfl rfl ?_
                  refine R_iload (k := 4) rfl rfl ?_
                  refine N_if_eq (a := x5.toInt) 158 rfl rfl rfl (fun c285 => ?_) (fun c285 => ?_)
                  · exfalso; omega
                  · refine R_aload_n (k := 0) rfl rfl rfl ?_
                    refine R_getf_i (j := 12) rfl ft_6_49 sh_75 rfl ?_
                    refine R_goto 159 rfl rfl ?_
                    refine R_aload_n (k := 1) rfl rfl rfl ?_
                    refine R_getf_r (j := 0) rfl ft_6_65 sh_16 rfl ?_
                    refine R_bipush 8 rfl rfl ?_
                    refine R_iald rfl sh_17 (by decide) ?_
                    show RUN d_X6_noteSums 166 [(6, .inl (h214.1 17 7)), (5, .inl x216), (4, .inl x5), (0, .inr (.inr (.inl 75))), (1, .inr (.inr (.inl 16))), (2, .inr (.inr (.inl 70))), (3, .inl a2)] [.inl (h281.1 17 8), .inl (h281.1 75 12), .inl (h214.1 17 7), .inl a2, .inr (.inr (.inl 85))] h281 _
                    refine R_callS (As := [.inl (h214.1 17 7), .inl (h281.1 75 12), .inl (h281.1 17 8)]) (rest := [.inl a2, .inr (.inr (.inl 85))]) rfl mt_6_i111 (by decide) pp_X8_burnsOn (by decide) rfl rfl (Nat.le_of_ble_eq_true rfl) (Nat.le_of_ble_eq_true rfl) ((k_X8_burnsOn h281 hI (h214.1 17 7) (h281.1 75 12) (h281.1 17 8)).mono (fun r286 h287 p288 => ?_))
                    obtain ⟨rfl, x289, rfl, q290⟩ := p288
                    show RUN d_X6_noteSums 169 [(6, .inl (h214.1 17 7)), (5, .inl x216), (4, .inl x5), (0, .inr (.inr (.inl 75))), (1, .inr (.inr (.inl 16))), (2, .inr (.inr (.inl 70))), (3, .inl a2)] [.inl x289, .inl a2, .inr (.inr (.inl 85))] h281 _
                    refine K_iast (a := a2.toInt) (lo := (-2147483648)) (hi' := 2147483647) rfl sh_85 rfl ⟨by omega, by omega⟩ hI (by decide) rfl (i_rng _) fr (by decide) (fun h291 g292 hI fr => ?_)
                    have fl215 : FR [75, 83, 84, 85] h h291 := by rw [g292]; exact FR_wI _ _ fl215 (by decide)
                    have s293 : (h291.1 70 4).toInt = (h281.1 70 4).toInt := by rw [g292, wI_ne _ _ _ (by decide)]
                    have s294 : (h291.1 17 7).toInt = (h281.1 17 7).toInt := by rw [g292, wI_ne _ _ _ (by decide)]
                    have s295 : (h291.1 75 12).toInt = (h281.1 75 12).toInt := by rw [g292, wI_ne _ _ _ (by decide)]
                    have s296 : (h291.1 17 8).toInt = (h281.1 17 8).toInt := by rw [g292, wI_ne _ _ _ (by decide)]
                    refine R_iload (k := 4) rfl rfl ?_
                    refine N_if_eq (a := x5.toInt) 187 rfl rfl rfl (fun c297 => ?_) (fun c297 => ?_)
                    · exfalso; omega
                    · refine R_aload_n (k := 0) rfl rfl rfl ?_
                      refine R_dup_r rfl ?_
                      refine R_getf_l (j := 11) rfl ft_6_45 sh_75 rfl ?_
                      refine N_anyL (fun w298 => ?_)
                      refine R_lconst 1 rfl rfl ?_
                      refine R_iload_n (k := 3) rfl rfl rfl ?_
                      refine R_lshl rfl ?_
                      refine N_anyL (fun w299 => ?_)
                      refine R_lor rfl ?_
                      refine N_anyL (fun w300 => ?_)
                      refine K_putl (j := 11) rfl ft_6_45 sh_75 rfl hI fr (by decide) (fun h301 g302 hI fr => ?_)
                      have fl215 : FR [75, 83, 84, 85] h h301 := by rw [g302]; exact FR_wL _ _ fl215 (by decide)
                      have s303 : (h301.1 70 4).toInt = (h291.1 70 4).toInt := by rw [g302, wL_fst]
                      have s304 : (h301.1 17 7).toInt = (h291.1 17 7).toInt := by rw [g302, wL_fst]
                      have s305 : (h301.1 75 12).toInt = (h291.1 75 12).toInt := by rw [g302, wL_fst]
                      have s306 : (h301.1 17 8).toInt = (h291.1 17 8).toInt := by rw [g302, wL_fst]
                      exact R_vret rfl rfl ⟨hI, fr, rfl⟩
        · refine R_aload_n (k := 0) rfl rfl rfl ?_
          refine R_getf_r (j := 4) rfl ft_6_24 sh_75 rfl ?_
          refine R_iload_n (k := 3) rfl rfl rfl ?_
          refine R_iald rfl sh_80 ⟨by omega, by omega⟩ ?_
          refine N_any (fun x307 => ?_)
          refine N_i2l rfl (fun w308 q309 => ?_)
          refine R_iload (k := 6) rfl rfl ?_
          refine R_callS (As := [.inr (.inl w308), .inl x217]) (rest := []) rfl mt_6_i104 (by decide) pp_X8_hasBit (by decide) rfl rfl (Nat.le_of_ble_eq_true rfl) (Nat.le_of_ble_eq_true rfl) ((k_X8_hasBit h214 hI w308 x217).mono (fun r310 h311 p312 => ?_))
          obtain ⟨rfl, x313, rfl, q314 | q314⟩ := p312
          · show RUN d_X6_noteSums 37 [(6, .inl x217), (5, .inl x216), (4, .inl x5), (0, .inr (.inr (.inl 75))), (1, .inr (.inr (.inl 16))), (2, .inr (.inr (.inl 70))), (3, .inl a2)] [.inl x313] h214 _
            refine N_if_eq (a := x313.toInt) 51 rfl rfl rfl (fun c315 => ?_) (fun c315 => ?_)
            · refine N_iinc (a := x217.toInt) (c := 1) (fun w => [(6, .inl w), (5, .inl x216), (4, .inl x5), (0, .inr (.inr (.inl 75))), (1, .inr (.inr (.inl 16))), (2, .inr (.inr (.inl 70))), (3, .inl a2)]) rfl rfl (fun _ => rfl) (by decide) rfl (by decide) (by omega) (fun x316 q317 => ?_)
              refine R_goto 18 rfl rfl ?_
              exact RUN_weak (psub_cons rfl (psub_cons rfl (psub_cons rfl (psub_cons rfl (psub_cons rfl (psub_cons rfl (psub_cons rfl (psub_nil _)))))))) (ih218 h214 x216 x316 hI fr fl215 (by omega) (by omega))
            · exfalso; omega
          · show RUN d_X6_noteSums 37 [(6, .inl x217), (5, .inl x216), (4, .inl x5), (0, .inr (.inr (.inl 75))), (1, .inr (.inr (.inl 16))), (2, .inr (.inr (.inl 70))), (3, .inl a2)] [.inl x313] h214 _
            refine N_if_eq (a := x313.toInt) 51 rfl rfl rfl (fun c318 => ?_) (fun c318 => ?_)
            · exfalso; omega
            · refine R_iload (k := 5) rfl rfl ?_
              refine R_aload_n (k := 0) rfl rfl rfl ?_
              refine R_iload (k := 6) rfl rfl ?_
              refine R_callV (v := .inr (.inr (.inl 75))) (As := [.inl x217]) (rest := [.inl x216]) rfl mt_6_i108 pp_X6_lossOf (by decide) rfl rfl rfl (Nat.le_of_ble_eq_true rfl) (Nat.le_of_ble_eq_true rfl) ((k_X6_lossOf h214 hI x217 (by omega)).mono (fun r319 h320 p321 => ?_))
              obtain ⟨rfl, x322, rfl, q323⟩ := p321
              show RUN d_X6_noteSums 48 [(6, .inl x217), (5, .inl x216), (4, .inl x5), (0, .inr (.inr (.inl 75))), (1, .inr (.inr (.inl 16))), (2, .inr (.inr (.inl 70))), (3, .inl a2)] [.inl x322, .inl x216] h214 _
              have b324 := i_rng x216
              have b325 := i_rng x322
              refine R_iadd rfl ?_
              refine N_any (fun x326 => ?_)
              refine R_istore (k := 5) [(5, .inl x326), (6, .inl x217), (4, .inl x5), (0, .inr (.inr (.inl 75))), (1, .inr (.inr (.inl 16))), (2, .inr (.inr (.inl 70))), (3, .inl a2)] rfl rfl (by decide) ?_
              refine N_iinc (a := x217.toInt) (c := 1) (fun w => [(6, .inl w), (5, .inl x326), (4, .inl x5), (0, .inr (.inr (.inl 75))), (1, .inr (.inr (.inl 16))), (2, .inr (.inr (.inl 70))), (3, .inl a2)]) rfl rfl (fun _ => rfl) (by decide) rfl (by decide) (by omega) (fun x327 q328 => ?_)
              refine R_goto 18 rfl rfl ?_
              exact RUN_weak (psub_cons rfl (psub_cons rfl (psub_cons rfl (psub_cons rfl (psub_cons rfl (psub_cons rfl (psub_cons rfl (psub_nil _)))))))) (ih218 h214 x326 x327 hI fr fl215 (by omega) (by omega))
    exact lp213 _ h (0 : Int32) (0 : Int32) hI fr (FR.rf _ _) (by decide) (Nat.lt_succ_self _)
abbrev q_X6_tell (h : PH)  : Option PV → PH → Prop := fun r h' => INV h' ∧ FR [70, 74, 75, 76, 77, 78, 79, 80, 81, 82, 83, 84, 85, 86] h h' ∧ r = none
set_option maxHeartbeats 4000000 in
set_option maxRecDepth 100000 in
theorem k_X6_tell (h : PH) (hI : INV h)  : CALL d_X6_tell [.inr (.inr (.inl 75)), .inr (.inr (.inl 16)), .inr (.inr (.inl 70))] h (q_X6_tell h) := by
  show RUN d_X6_tell 0 [(0, .inr (.inr (.inl 75))), (1, .inr (.inr (.inl 16))), (2, .inr (.inr (.inl 70)))] [] h _
  have fr : FR [70, 74, 75, 76, 77, 78, 79, 80, 81, 82, 83, 84, 85, 86] h h := FR.rf _ _
  refine R_iconst 0 rfl rfl ?_
  refine R_istore_n (k := 3) rfl [(3, .inl 0), (0, .inr (.inr (.inl 75))), (1, .inr (.inr (.inl 16))), (2, .inr (.inr (.inl 70)))] rfl rfl (by decide) ?_
  have lp2 : ∀ (n1 : Nat) (h3 : PH) (x5 : Int32), INV h3 → FR [70, 74, 75, 76, 77, 78, 79, 80, 81, 82, 83, 84, 85, 86] h h3 → FR [70, 74, 75, 76, 77, 78, 79, 80, 81, 82, 83, 84, 85, 86] h h3 → 0 ≤ x5.toInt ∧ x5.toInt ≤ 2147483647 → (2147483647 - x5.toInt).toNat < n1 → RUN d_X6_tell 2 [(3, .inl x5), (0, .inr (.inr (.inl 75))), (1, .inr (.inr (.inl 16))), (2, .inr (.inr (.inl 70)))] [] h3 (q_X6_tell h) := by
    intro n1
    induction n1 with
    | zero => intro h3 x5 m7 m8 m9 m10 hz; exact absurd hz (Nat.not_lt_zero _)
    | succ n1 ih6 =>
      intro h3 x5 hI fr fl4 m10 hz
      refine R_iload_n (k := 3) rfl rfl rfl ?_
      refine R_bipush 6 rfl rfl ?_
      refine N_icmp_gt (a := x5.toInt) (b := 6) 25 rfl rfl rfl (by decide) (fun c11 => ?_) (fun c11 => ?_)
      · refine R_aload_n (k := 0) rfl rfl rfl ?_
        refine R_aload_n (k := 2) rfl rfl rfl ?_
        refine R_callV (v := .inr (.inr (.inl 70))) (As := []) (rest := [.inr (.inr (.inl 75))]) rfl mt_6_i59 pp_X2_poured (by decide) rfl rfl rfl (Nat.le_of_ble_eq_true rfl) (Nat.le_of_ble_eq_true rfl) ((k_X2_poured h3 hI).mono (fun r12 h13 p14 => ?_))
        obtain ⟨rfl, x15, rfl, q16⟩ := p14
        show RUN d_X6_tell 30 [(3, .inl x5), (0, .inr (.inr (.inl 75))), (1, .inr (.inr (.inl 16))), (2, .inr (.inr (.inl 70)))] [.inl x15, .inr (.inr (.inl 75))] h3 _
        refine K_putf (j := 12) (lo := (-2147483648)) (hi' := 2147483647) rfl ft_6_49 sh_75 rfl hI (by decide) rfl (i_rng _) fr (by decide) (fun h17 g18 hI fr => ?_)
        have fl4 : FR [70, 74, 75, 76, 77, 78, 79, 80, 81, 82, 83, 84, 85, 86] h h17 := by rw [g18]; exact FR_wI _ _ fl4 (by decide)
        have s19 : (h17.1 75 12).toInt = x15.toInt := by rw [g18, wI_is]
        refine R_aload_n (k := 0) rfl rfl rfl ?_
        refine R_lconst 0 rfl rfl ?_
        refine K_putl (j := 11) rfl ft_6_45 sh_75 rfl hI fr (by decide) (fun h20 g21 hI fr => ?_)
        have fl4 : FR [70, 74, 75, 76, 77, 78, 79, 80, 81, 82, 83, 84, 85, 86] h h20 := by rw [g21]; exact FR_wL _ _ fl4 (by decide)
        have s22 : (h20.1 75 12).toInt = (h17.1 75 12).toInt := by rw [g21, wL_fst]
        refine R_aload_n (k := 2) rfl rfl rfl ?_
        refine R_callV (v := .inr (.inr (.inl 70))) (As := []) (rest := []) rfl mt_6_i62 pp_X2_begin (by decide) rfl rfl rfl (Nat.le_of_ble_eq_true rfl) (Nat.le_of_ble_eq_true rfl) ((k_X2_begin h20 hI).mono (fun r23 h24 p25 => ?_))
        obtain ⟨hJ, fj, rfl⟩ := p25
        have f26 := fj
        have fr := fr.trans fj (by decide)
        have hI := hJ
        have fl4 : FR [70, 74, 75, 76, 77, 78, 79, 80, 81, 82, 83, 84, 85, 86] h h24 := fl4.trans fj (by decide)
        have s27 : (h24.1 75 12).toInt = (h20.1 75 12).toInt := by rw [(f26 75 (by decide)).1]
        show RUN d_X6_tell 42 [(3, .inl x5), (0, .inr (.inr (.inl 75))), (1, .inr (.inr (.inl 16))), (2, .inr (.inr (.inl 70)))] [] h24 _
        refine R_iconst 0 rfl rfl ?_
        refine R_istore_n (k := 3) rfl [(3, .inl 0), (0, .inr (.inr (.inl 75))), (1, .inr (.inr (.inl 16))), (2, .inr (.inr (.inl 70)))] rfl rfl (by decide) ?_
        have lp29 : ∀ (n28 : Nat) (h30 : PH) (x32 : Int32), INV h30 → FR [70, 74, 75, 76, 77, 78, 79, 80, 81, 82, 83, 84, 85, 86] h h30 → FR [70, 74, 75, 76, 77, 78, 79, 80, 81, 82, 83, 84, 85] h24 h30 → 0 ≤ x32.toInt ∧ x32.toInt ≤ 2147483647 → (2147483647 - x32.toInt).toNat < n28 → RUN d_X6_tell 44 [(3, .inl x32), (0, .inr (.inr (.inl 75))), (1, .inr (.inr (.inl 16))), (2, .inr (.inr (.inl 70)))] [] h30 (q_X6_tell h) := by
          intro n28
          induction n28 with
          | zero => intro h30 x32 m34 m35 m36 m37 hz; exact absurd hz (Nat.not_lt_zero _)
          | succ n28 ih33 =>
            intro h30 x32 hI fr fl31 m37 hz
            have fl4 : FR [70, 74, 75, 76, 77, 78, 79, 80, 81, 82, 83, 84, 85, 86] h h30 := fl4.trans fl31 (by decide)
            refine R_iload_n (k := 3) rfl rfl rfl ?_
            refine R_aload_n (k := 1) rfl rfl rfl ?_
            refine R_getf_r (j := 0) rfl ft_6_65 sh_16 rfl ?_
            refine R_iconst 0 rfl rfl ?_
            refine R_iald rfl sh_17 (by decide) ?_
            have b38 : (0 : Int) ≤ (h30.1 17 0).toInt ∧ (h30.1 17 0).toInt ≤ 60 := hI.1 17 0
            show RUN d_X6_tell 51 [(3, .inl x32), (0, .inr (.inr (.inl 75))), (1, .inr (.inr (.inl 16))), (2, .inr (.inr (.inl 70)))] [.inl (h30.1 17 0), .inl x32] h30 _
            refine N_icmp_ge (a := x32.toInt) (b := (h30.1 17 0).toInt) 114 rfl rfl rfl rfl (fun c39 => ?_) (fun c39 => ?_)
            · exact R_vret rfl rfl ⟨hI, fr, rfl⟩
            · refine R_iload_n (k := 3) rfl rfl rfl ?_
              refine R_bipush 60 rfl rfl ?_
              refine N_icmp_ge (a := x32.toInt) (b := 60) 114 rfl rfl rfl (by decide) (fun c40 => ?_) (fun c40 => ?_)
              · exfalso; omega
              · refine R_aload_n (k := 2) rfl rfl rfl ?_
                refine R_callV (v := .inr (.inr (.inl 70))) (As := []) (rest := []) rfl mt_6_i70 pp_X2_readyBits (by decide) rfl rfl rfl (Nat.le_of_ble_eq_true rfl) (Nat.le_of_ble_eq_true rfl) ((k_X2_readyBits h30 hI).mono (fun r41 h42 p43 => ?_))
                obtain ⟨rfl, x44, rfl, q45⟩ := p43
                show RUN d_X6_tell 64 [(3, .inl x32), (0, .inr (.inr (.inl 75))), (1, .inr (.inr (.inl 16))), (2, .inr (.inr (.inl 70)))] [.inl x44] h30 _
                refine R_istore (k := 4) [(4, .inl x44), (3, .inl x32), (0, .inr (.inr (.inl 75))), (1, .inr (.inr (.inl 16))), (2, .inr (.inr (.inl 70)))] rfl rfl (by decide) ?_
                refine R_aload_n (k := 0) rfl rfl rfl ?_
                refine R_getf_r (j := 4) rfl ft_6_24 sh_75 rfl ?_
                refine R_iload_n (k := 3) rfl rfl rfl ?_
                refine R_aload_n (k := 2) rfl rfl rfl ?_
                refine R_iload_n (k := 3) rfl rfl rfl ?_
                refine R_iconst 0 rfl rfl ?_
                have k46 : (0 : Int32).toInt = 0 := by decide
                refine R_callV (v := .inr (.inr (.inl 70))) (As := [.inl x32, .inl 0]) (rest := [.inl x32, .inr (.inr (.inl 80))]) rfl mt_6_i73 pp_X2_step (by decide) rfl rfl rfl (Nat.le_of_ble_eq_true rfl) (Nat.le_of_ble_eq_true rfl) ((k_X2_step h30 hI x32 (0 : Int32) (by omega) (by decide)).mono (fun r47 h48 p49 => ?_))
                obtain ⟨hJ, fj, x50, rfl, q51⟩ := p49
                have f52 := fj
                have fr := fr.trans fj (by decide)
                have hI := hJ
                have fl31 : FR [70, 74, 75, 76, 77, 78, 79, 80, 81, 82, 83, 84, 85] h24 h48 := fl31.trans fj (by decide)
                have fl4 : FR [70, 74, 75, 76, 77, 78, 79, 80, 81, 82, 83, 84, 85, 86] h h48 := fl4.trans fj (by decide)
                have s53 : (h48.1 17 0).toInt = (h30.1 17 0).toInt := by rw [(f52 17 (by decide)).1]
                show RUN d_X6_tell 77 [(4, .inl x44), (3, .inl x32), (0, .inr (.inr (.inl 75))), (1, .inr (.inr (.inl 16))), (2, .inr (.inr (.inl 70)))] [.inl x50, .inl x32, .inr (.inr (.inl 80))] h48 _
                refine K_iast (a := x32.toInt) (lo := (-2147483648)) (hi' := 2147483647) rfl sh_80 rfl ⟨by omega, by omega⟩ hI (by decide) rfl (i_rng _) fr (by decide) (fun h54 g55 hI fr => ?_)
                have fl31 : FR [70, 74, 75, 76, 77, 78, 79, 80, 81, 82, 83, 84, 85] h24 h54 := by rw [g55]; exact FR_wI _ _ fl31 (by decide)
                have fl4 : FR [70, 74, 75, 76, 77, 78, 79, 80, 81, 82, 83, 84, 85, 86] h h54 := by rw [g55]; exact FR_wI _ _ fl4 (by decide)
                have s56 : (h54.1 17 0).toInt = (h48.1 17 0).toInt := by rw [g55, wI_ne _ _ _ (by decide)]
                refine R_aload_n (k := 0) rfl rfl rfl ?_
                refine R_getf_r (j := 2) rfl ft_6_18 sh_75 rfl ?_
                refine R_iload_n (k := 3) rfl rfl rfl ?_
                refine R_iload (k := 4) rfl rfl ?_
                refine R_aload_n (k := 0) rfl rfl rfl ?_
                refine R_getf_r (j := 4) rfl ft_6_24 sh_75 rfl ?_
                refine R_iload_n (k := 3) rfl rfl rfl ?_
                refine R_iald rfl sh_80 ⟨by omega, by omega⟩ ?_
                refine N_any (fun x57 => ?_)
                refine R_iconst (-1) rfl rfl ?_
                refine R_ixor rfl ?_
                refine N_any (fun x58 => ?_)
                refine R_iand rfl ?_
                refine N_any (fun x59 => ?_)
                refine K_iast (a := x32.toInt) (lo := (-2147483648)) (hi' := 2147483647) rfl sh_78 rfl ⟨by omega, by omega⟩ hI (by decide) rfl (i_rng _) fr (by decide) (fun h60 g61 hI fr => ?_)
                have fl31 : FR [70, 74, 75, 76, 77, 78, 79, 80, 81, 82, 83, 84, 85] h24 h60 := by rw [g61]; exact FR_wI _ _ fl31 (by decide)
                have fl4 : FR [70, 74, 75, 76, 77, 78, 79, 80, 81, 82, 83, 84, 85, 86] h h60 := by rw [g61]; exact FR_wI _ _ fl4 (by decide)
                have s62 : (h60.1 17 0).toInt = (h54.1 17 0).toInt := by rw [g61, wI_ne _ _ _ (by decide)]
                refine R_aload_n (k := 0) rfl rfl rfl ?_
                refine R_aload_n (k := 2) rfl rfl rfl ?_
                refine R_iload_n (k := 3) rfl rfl rfl ?_
                refine R_callV (v := .inr (.inr (.inl 75))) (As := [.inr (.inr (.inl 70)), .inl x32]) (rest := []) rfl mt_6_i77 pp_X6_noteLine (by decide) rfl rfl rfl (Nat.le_of_ble_eq_true rfl) (Nat.le_of_ble_eq_true rfl) ((k_X6_noteLine h60 hI x32 (by omega)).mono (fun r63 h64 p65 => ?_))
                obtain ⟨hJ, fj, rfl⟩ := p65
                have f66 := fj
                have fr := fr.trans fj (by decide)
                have hI := hJ
                have fl31 : FR [70, 74, 75, 76, 77, 78, 79, 80, 81, 82, 83, 84, 85] h24 h64 := fl31.trans fj (by decide)
                have fl4 : FR [70, 74, 75, 76, 77, 78, 79, 80, 81, 82, 83, 84, 85, 86] h h64 := fl4.trans fj (by decide)
                have s67 : (h64.1 17 0).toInt = (h60.1 17 0).toInt := by rw [(f66 17 (by decide)).1]
                show RUN d_X6_tell 101 [(4, .inl x44), (3, .inl x32), (0, .inr (.inr (.inl 75))), (1, .inr (.inr (.inl 16))), (2, .inr (.inr (.inl 70)))] [] h64 _
                refine R_aload_n (k := 0) rfl rfl rfl ?_
                refine R_aload_n (k := 1) rfl rfl rfl ?_
                refine R_aload_n (k := 2) rfl rfl rfl ?_
                refine R_iload_n (k := 3) rfl rfl rfl ?_
                refine R_callV (v := .inr (.inr (.inl 75))) (As := [.inr (.inr (.inl 16)), .inr (.inr (.inl 70)), .inl x32]) (rest := []) rfl mt_6_i81 pp_X6_noteSums (by decide) rfl rfl rfl (Nat.le_of_ble_eq_true rfl) (Nat.le_of_ble_eq_true rfl) ((k_X6_noteSums h64 hI x32 (by omega)).mono (fun r68 h69 p70 => ?_))
                obtain ⟨hJ, fj, rfl⟩ := p70
                have f71 := fj
                have fr := fr.trans fj (by decide)
                have hI := hJ
                have fl31 : FR [70, 74, 75, 76, 77, 78, 79, 80, 81, 82, 83, 84, 85] h24 h69 := fl31.trans fj (by decide)
                have fl4 : FR [70, 74, 75, 76, 77, 78, 79, 80, 81, 82, 83, 84, 85, 86] h h69 := fl4.trans fj (by decide)
                have s72 : (h69.1 17 0).toInt = (h64.1 17 0).toInt := by rw [(f71 17 (by decide)).1]
                show RUN d_X6_tell 108 [(4, .inl x44), (3, .inl x32), (0, .inr (.inr (.inl 75))), (1, .inr (.inr (.inl 16))), (2, .inr (.inr (.inl 70)))] [] h69 _
                refine N_iinc (a := x32.toInt) (c := 1) (fun w => [(3, .inl w), (4, .inl x44), (0, .inr (.inr (.inl 75))), (1, .inr (.inr (.inl 16))), (2, .inr (.inr (.inl 70)))]) rfl rfl (fun _ => rfl) (by decide) rfl (by decide) (by omega) (fun x73 q74 => ?_)
                refine R_goto 44 rfl rfl ?_
                exact RUN_weak (psub_cons rfl (psub_cons rfl (psub_cons rfl (psub_cons rfl (psub_nil _))))) (ih33 h69 x73 hI fr fl31 (by omega) (by omega))
        exact lp29 _ h24 (0 : Int32) hI fr (FR.rf _ _) (by decide) (Nat.lt_succ_self _)
      · refine R_aload_n (k := 0) rfl rfl rfl ?_
        refine R_getf_r (j := 10) rfl ft_6_42 sh_75 rfl ?_
        refine R_iload_n (k := 3) rfl rfl rfl ?_
        refine R_aload_n (k := 2) rfl rfl rfl ?_
        refine R_iload_n (k := 3) rfl rfl rfl ?_
        refine R_callV (v := .inr (.inr (.inl 70))) (As := [.inl x5]) (rest := [.inl x5, .inr (.inr (.inl 86))]) rfl mt_6_i53 pp_X2_loadAt (by decide) rfl rfl rfl (Nat.le_of_ble_eq_true rfl) (Nat.le_of_ble_eq_true rfl) ((k_X2_loadAt h3 hI x5 (by omega)).mono (fun r75 h76 p77 => ?_))
        obtain ⟨rfl, x78, rfl, q79⟩ := p77
        show RUN d_X6_tell 18 [(3, .inl x5), (0, .inr (.inr (.inl 75))), (1, .inr (.inr (.inl 16))), (2, .inr (.inr (.inl 70)))] [.inl x78, .inl x5, .inr (.inr (.inl 86))] h3 _
        refine K_iast (a := x5.toInt) (lo := (-2147483648)) (hi' := 2147483647) rfl sh_86 rfl ⟨by omega, by omega⟩ hI (by decide) rfl (i_rng _) fr (by decide) (fun h80 g81 hI fr => ?_)
        have fl4 : FR [70, 74, 75, 76, 77, 78, 79, 80, 81, 82, 83, 84, 85, 86] h h80 := by rw [g81]; exact FR_wI _ _ fl4 (by decide)
        refine N_iinc (a := x5.toInt) (c := 1) (fun w => [(3, .inl w), (0, .inr (.inr (.inl 75))), (1, .inr (.inr (.inl 16))), (2, .inr (.inr (.inl 70)))]) rfl rfl (fun _ => rfl) (by decide) rfl (by decide) (by omega) (fun x82 q83 => ?_)
        refine R_goto 2 rfl rfl ?_
        exact RUN_weak (psub_cons rfl (psub_cons rfl (psub_cons rfl (psub_cons rfl (psub_nil _))))) (ih6 h80 x82 hI fr fl4 (by omega) (by omega))
  exact lp2 _ h (0 : Int32) hI fr (FR.rf _ _) (by decide) (Nat.lt_succ_self _)
abbrev q_X8_told (h : PH)  : Option PV → PH → Prop := fun r h' => INV h' ∧ FR [0, 70, 71, 72, 73, 74, 75, 76, 77, 78, 79, 80, 81, 82, 83, 84, 85, 86] h h' ∧ r = some (.inr (.inr (.inl 75)))
set_option maxHeartbeats 4000000 in
set_option maxRecDepth 100000 in
theorem k_X8_told (h : PH) (hI : INV h)  : CALL d_X8_told [.inr (.inr (.inl 0))] h (q_X8_told h) := by
  show RUN d_X8_told 0 [(0, .inr (.inr (.inl 0)))] [] h _
  have fr : FR [0, 70, 71, 72, 73, 74, 75, 76, 77, 78, 79, 80, 81, 82, 83, 84, 85, 86] h h := FR.rf _ _
  refine R_aload_n (k := 0) rfl rfl rfl ?_
  refine R_getf_i (j := 11) rfl ft_8_74 sh_0 rfl ?_
  refine N_if_ne (a := (h.1 0 11).toInt) 31 rfl rfl rfl (fun c1 => ?_) (fun c1 => ?_)
  · refine R_aload_n (k := 0) rfl rfl rfl ?_
    refine R_getf_r (j := 8) rfl ft_8_56 sh_0 rfl ?_
    exact R_aret rfl rfl ⟨hI, fr, rfl⟩
  · refine R_aload_n (k := 0) rfl rfl rfl ?_
    refine R_callV (v := .inr (.inr (.inl 0))) (As := []) (rest := []) rfl mt_8_i237 pp_X8_lineAsNow (by decide) rfl rfl rfl (Nat.le_of_ble_eq_true rfl) (Nat.le_of_ble_eq_true rfl) ((k_X8_lineAsNow h hI).mono (fun r2 h3 p4 => ?_))
    obtain ⟨hJ, fj, rfl⟩ := p4
    have f5 := fj
    have fr := fr.trans fj (by decide)
    have hI := hJ
    have s6 : (h3.1 0 11).toInt = (h.1 0 11).toInt := by rw [(f5 0 (by decide)).1]
    show RUN d_X8_told 11 [(0, .inr (.inr (.inl 0)))] [] h3 _
    refine R_aload_n (k := 0) rfl rfl rfl ?_
    refine R_getf_r (j := 8) rfl ft_8_56 sh_0 rfl ?_
    refine R_aload_n (k := 0) rfl rfl rfl ?_
    refine R_getf_r (j := 3) rfl ft_8_28 sh_0 rfl ?_
    refine R_aload_n (k := 0) rfl rfl rfl ?_
    refine R_getf_r (j := 7) rfl ft_8_49 sh_0 rfl ?_
    refine R_callV (v := .inr (.inr (.inl 75))) (As := [.inr (.inr (.inl 16)), .inr (.inr (.inl 70))]) (rest := []) rfl mt_8_i412 pp_X6_tell (by decide) rfl rfl rfl (Nat.le_of_ble_eq_true rfl) (Nat.le_of_ble_eq_true rfl) ((k_X6_tell h3 hI).mono (fun r7 h8 p9 => ?_))
    obtain ⟨hJ, fj, rfl⟩ := p9
    have f10 := fj
    have fr := fr.trans fj (by decide)
    have hI := hJ
    have s11 : (h8.1 0 11).toInt = (h3.1 0 11).toInt := by rw [(f10 0 (by decide)).1]
    show RUN d_X8_told 26 [(0, .inr (.inr (.inl 0)))] [] h8 _
    refine R_aload_n (k := 0) rfl rfl rfl ?_
    refine R_iconst 1 rfl rfl ?_
    refine K_putz (j := 11) rfl ft_8_74 sh_0 rfl (by decide) hI (by decide) rfl fr (by decide) (fun h12 g13 hI fr => ?_)
    have s14 : (h12.1 0 11).toInt = 1 := by rw [g13, wI_is]; rfl
    refine R_aload_n (k := 0) rfl rfl rfl ?_
    refine R_getf_r (j := 8) rfl ft_8_56 sh_0 rfl ?_
    exact R_aret rfl rfl ⟨hI, fr, rfl⟩
abbrev q_X8_holds (h : PH) (a0 : Int32) (a1 : Int32) : Option PV → PH → Prop := fun r h' => INV h' ∧ FR [0, 70, 71, 72, 73, 74, 75, 76, 77, 78, 79, 80, 81, 82, 83, 84, 85, 86] h h' ∧ ∃ z : Int32, r = some (.inl z) ∧ ((True))
set_option maxHeartbeats 4000000 in
set_option maxRecDepth 100000 in
theorem k_X8_holds (h : PH) (hI : INV h) (a0 : Int32) (a1 : Int32) : CALL d_X8_holds [.inr (.inr (.inl 0)), .inl a0, .inl a1] h (q_X8_holds h a0 a1) := by
  show RUN d_X8_holds 0 [(0, .inr (.inr (.inl 0))), (1, .inl a0), (2, .inl a1)] [] h _
  have b1 := i_rng a0
  have b2 := i_rng a1
  have fr : FR [0, 70, 71, 72, 73, 74, 75, 76, 77, 78, 79, 80, 81, 82, 83, 84, 85, 86] h h := FR.rf _ _
  refine R_aload_n (k := 0) rfl rfl rfl ?_
  refine R_getf_r (j := 3) rfl ft_8_28 sh_0 rfl ?_
  refine R_iload_n (k := 1) rfl rfl rfl ?_
  refine R_callV (v := .inr (.inr (.inl 16))) (As := [.inl a0]) (rest := []) rfl mt_8_i119 pp_X1_hasHand (by decide) rfl rfl rfl (Nat.le_of_ble_eq_true rfl) (Nat.le_of_ble_eq_true rfl) ((k_X1_hasHand h hI a0).mono (fun r3 h4 p5 => ?_))
  obtain ⟨rfl, x6, rfl, q7 | q7 | q7⟩ := p5
  · show RUN d_X8_holds 8 [(0, .inr (.inr (.inl 0))), (1, .inl a0), (2, .inl a1)] [.inl x6] h _
    refine N_if_eq (a := x6.toInt) 22 rfl rfl rfl (fun c8 => ?_) (fun c8 => ?_)
    · refine R_bipush (-2) rfl rfl ?_
      exact R_iret rfl rfl rfl ⟨hI, fr, _, rfl, trivial⟩
    · exfalso; omega
  · have b9 : (0 : Int) ≤ (h.1 17 5).toInt ∧ (h.1 17 5).toInt ≤ 6 := hI.1 17 5
    show RUN d_X8_holds 8 [(0, .inr (.inr (.inl 0))), (1, .inl a0), (2, .inl a1)] [.inl x6] h _
    refine N_if_eq (a := x6.toInt) 22 rfl rfl rfl (fun c10 => ?_) (fun c10 => ?_)
    · refine R_bipush (-2) rfl rfl ?_
      exact R_iret rfl rfl rfl ⟨hI, fr, _, rfl, trivial⟩
    · exfalso; omega
  · have b11 : (0 : Int) ≤ (h.1 17 5).toInt ∧ (h.1 17 5).toInt ≤ 6 := hI.1 17 5
    show RUN d_X8_holds 8 [(0, .inr (.inr (.inl 0))), (1, .inl a0), (2, .inl a1)] [.inl x6] h _
    refine N_if_eq (a := x6.toInt) 22 rfl rfl rfl (fun c12 => ?_) (fun c12 => ?_)
    · exfalso; omega
    · refine R_aload_n (k := 0) rfl rfl rfl ?_
      refine R_getf_r (j := 3) rfl ft_8_28 sh_0 rfl ?_
      refine R_iload_n (k := 2) rfl rfl rfl ?_
      refine R_callV (v := .inr (.inr (.inl 16))) (As := [.inl a1]) (rest := []) rfl mt_8_i150 pp_X1_hasSecond (by decide) rfl rfl rfl (Nat.le_of_ble_eq_true rfl) (Nat.le_of_ble_eq_true rfl) ((k_X1_hasSecond h hI a1).mono (fun r13 h14 p15 => ?_))
      obtain ⟨rfl, x16, rfl, q17 | q17 | q17⟩ := p15
      · show RUN d_X8_holds 19 [(0, .inr (.inr (.inl 0))), (1, .inl a0), (2, .inl a1)] [.inl x16] h _
        refine N_if_ne (a := x16.toInt) 25 rfl rfl rfl (fun c18 => ?_) (fun c18 => ?_)
        · exfalso; omega
        · refine R_bipush (-2) rfl rfl ?_
          exact R_iret rfl rfl rfl ⟨hI, fr, _, rfl, trivial⟩
      · have b19 : (0 : Int) ≤ (h.1 17 0).toInt ∧ (h.1 17 0).toInt ≤ 60 := hI.1 17 0
        show RUN d_X8_holds 19 [(0, .inr (.inr (.inl 0))), (1, .inl a0), (2, .inl a1)] [.inl x16] h _
        refine N_if_ne (a := x16.toInt) 25 rfl rfl rfl (fun c20 => ?_) (fun c20 => ?_)
        · exfalso; omega
        · refine R_bipush (-2) rfl rfl ?_
          exact R_iret rfl rfl rfl ⟨hI, fr, _, rfl, trivial⟩
      · have b21 : (0 : Int) ≤ (h.1 17 0).toInt ∧ (h.1 17 0).toInt ≤ 60 := hI.1 17 0
        show RUN d_X8_holds 19 [(0, .inr (.inr (.inl 0))), (1, .inl a0), (2, .inl a1)] [.inl x16] h _
        refine N_if_ne (a := x16.toInt) 25 rfl rfl rfl (fun c22 => ?_) (fun c22 => ?_)
        · refine R_aload_n (k := 0) rfl rfl rfl ?_
          refine R_callV (v := .inr (.inr (.inl 0))) (As := []) (rest := []) rfl mt_8_i153 pp_X8_told (by decide) rfl rfl rfl (Nat.le_of_ble_eq_true rfl) (Nat.le_of_ble_eq_true rfl) ((k_X8_told h hI).mono (fun r23 h24 p25 => ?_))
          obtain ⟨hJ, fj, rfl⟩ := p25
          have f26 := fj
          have fr := fr.trans fj (by decide)
          have hI := hJ
          have s27 : (h24.1 17 5).toInt = (h.1 17 5).toInt := by rw [(f26 17 (by decide)).1]
          have s28 : (h24.1 17 0).toInt = (h.1 17 0).toInt := by rw [(f26 17 (by decide)).1]
          show RUN d_X8_holds 29 [(0, .inr (.inr (.inl 0))), (1, .inl a0), (2, .inl a1)] [.inr (.inr (.inl 75))] h24 _
          refine R_getf_r (j := 1) rfl ft_8_157 sh_75 rfl ?_
          refine R_iload_n (k := 2) rfl rfl rfl ?_
          refine R_iald rfl sh_77 ⟨by omega, by omega⟩ ?_
          refine N_any (fun x29 => ?_)
          refine N_i2l rfl (fun w30 q31 => ?_)
          refine R_iload_n (k := 1) rfl rfl rfl ?_
          refine R_callS (As := [.inr (.inl w30), .inl a0]) (rest := []) rfl mt_8_i160 (by decide) pp_X8_hasBit (by decide) rfl rfl (Nat.le_of_ble_eq_true rfl) (Nat.le_of_ble_eq_true rfl) ((k_X8_hasBit h24 hI w30 a0).mono (fun r32 h33 p34 => ?_))
          obtain ⟨rfl, x35, rfl, q36 | q36⟩ := p34
          · show RUN d_X8_holds 39 [(0, .inr (.inr (.inl 0))), (1, .inl a0), (2, .inl a1)] [.inl x35] h24 _
            refine N_if_eq (a := x35.toInt) 54 rfl rfl rfl (fun c37 => ?_) (fun c37 => ?_)
            · refine R_iconst (-1) rfl rfl ?_
              exact R_iret rfl rfl rfl ⟨hI, fr, _, rfl, trivial⟩
            · exfalso; omega
          · show RUN d_X8_holds 39 [(0, .inr (.inr (.inl 0))), (1, .inl a0), (2, .inl a1)] [.inl x35] h24 _
            refine N_if_eq (a := x35.toInt) 54 rfl rfl rfl (fun c38 => ?_) (fun c38 => ?_)
            · exfalso; omega
            · refine R_aload_n (k := 0) rfl rfl rfl ?_
              refine R_getf_r (j := 8) rfl ft_8_56 sh_0 rfl ?_
              refine R_getf_r (j := 10) rfl ft_8_164 sh_75 rfl ?_
              refine R_iload_n (k := 1) rfl rfl rfl ?_
              refine R_iald rfl sh_86 ⟨by omega, by omega⟩ ?_
              refine N_any (fun x39 => ?_)
              refine R_goto 55 rfl rfl ?_
              exact R_iret rfl rfl rfl ⟨hI, fr, _, rfl, trivial⟩
        · exfalso; omega
abbrev q_X9_isBrigade (h : PH)  : Option PV → PH → Prop := fun r h' => h = h' ∧ ∃ z : Int32, r = some (.inl z) ∧ ((z.toInt = 0 ∧ (h.1 97 10).toInt ≤ 0) ∨ (z.toInt = 1 ∧ 1 ≤ (h.1 97 0).toInt ∧ (h.1 97 0).toInt ≤ 60 ∧ 1 ≤ (h.1 97 10).toInt))
set_option maxHeartbeats 4000000 in
set_option maxRecDepth 100000 in
theorem k_X9_isBrigade (h : PH) (hI : INV h)  : CALL d_X9_isBrigade [.inr (.inr (.inl 96))] h (q_X9_isBrigade h) := by
  show RUN d_X9_isBrigade 0 [(0, .inr (.inr (.inl 96)))] [] h _
  refine R_aload_n (k := 0) rfl rfl rfl ?_
  refine R_getf_r (j := 1) rfl ft_9_9 sh_96 rfl ?_
  refine R_bipush 10 rfl rfl ?_
  refine R_iald rfl sh_97 (by decide) ?_
  have b1 : (0 : Int) ≤ (h.1 97 0).toInt ∧ (h.1 97 0).toInt ≤ 60 := hI.1 97 0
  have e2 : 0 < (h.1 97 10).toInt → 1 ≤ (h.1 97 0).toInt := hI.2.2.2.2.2.1.2
  show RUN d_X9_isBrigade 7 [(0, .inr (.inr (.inl 96)))] [.inl (h.1 97 10)] h _
  refine N_if_le (a := (h.1 97 10).toInt) 14 rfl rfl rfl (fun c3 => ?_) (fun c3 => ?_)
  · refine R_iconst 0 rfl rfl ?_
    exact R_iret rfl rfl rfl ⟨rfl, _, rfl, by rw [show (0 : Int32).toInt = 0 from rfl]; omega⟩
  · refine R_iconst 1 rfl rfl ?_
    refine R_goto 15 rfl rfl ?_
    exact R_iret rfl rfl rfl ⟨rfl, _, rfl, by rw [show (1 : Int32).toInt = 1 from rfl]; omega⟩
abbrev q_X9_last (h : PH)  : Option PV → PH → Prop := fun r h' => h = h' ∧ ∃ z : Int32, r = some (.inl z) ∧ (((-1) ≤ z.toInt ∧ z.toInt ≤ 59))
set_option maxHeartbeats 4000000 in
set_option maxRecDepth 100000 in
theorem k_X9_last (h : PH) (hI : INV h)  : CALL d_X9_last [.inr (.inr (.inl 96))] h (q_X9_last h) := by
  show RUN d_X9_last 0 [(0, .inr (.inr (.inl 96)))] [] h _
  refine R_aload_n (k := 0) rfl rfl rfl ?_
  refine R_getf_r (j := 1) rfl ft_9_9 sh_96 rfl ?_
  refine R_iconst 0 rfl rfl ?_
  refine R_iald rfl sh_97 (by decide) ?_
  have b1 : (0 : Int) ≤ (h.1 97 0).toInt ∧ (h.1 97 0).toInt ≤ 60 := hI.1 97 0
  show RUN d_X9_last 6 [(0, .inr (.inr (.inl 96)))] [.inl (h.1 97 0)] h _
  refine R_iconst 1 rfl rfl ?_
  refine N_isub (a := (h.1 97 0).toInt) (b := 1) rfl rfl (by decide) (by omega) (fun x2 q3 => ?_)
  exact R_iret rfl rfl rfl ⟨rfl, _, rfl, by omega⟩
abbrev q_X9_startLine (h : PH)  : Option PV → PH → Prop := fun r h' => INV h' ∧ FR [96, 107, 108, 109, 117, 118] h h' ∧ r = none
set_option maxHeartbeats 4000000 in
set_option maxRecDepth 100000 in
theorem k_X9_startLine (h : PH) (hI : INV h)  : CALL d_X9_startLine [.inr (.inr (.inl 96))] h (q_X9_startLine h) := by
  show RUN d_X9_startLine 0 [(0, .inr (.inr (.inl 96)))] [] h _
  have fr : FR [96, 107, 108, 109, 117, 118] h h := FR.rf _ _
  refine R_iconst 0 rfl rfl ?_
  refine R_istore_n (k := 1) rfl [(1, .inl 0), (0, .inr (.inr (.inl 96)))] rfl rfl (by decide) ?_
  have lp2 : ∀ (n1 : Nat) (h3 : PH) (x5 : Int32), INV h3 → FR [96, 107, 108, 109, 117, 118] h h3 → FR [96, 107, 108, 109, 117, 118] h h3 → 0 ≤ x5.toInt ∧ x5.toInt ≤ 2147483647 → (2147483647 - x5.toInt).toNat < n1 → RUN d_X9_startLine 2 [(1, .inl x5), (0, .inr (.inr (.inl 96)))] [] h3 (q_X9_startLine h) := by
    intro n1
    induction n1 with
    | zero => intro h3 x5 m7 m8 m9 m10 hz; exact absurd hz (Nat.not_lt_zero _)
    | succ n1 ih6 =>
      intro h3 x5 hI fr fl4 m10 hz
      refine R_iload_n (k := 1) rfl rfl rfl ?_
      refine R_bipush 6 rfl rfl ?_
      refine N_icmp_ge (a := x5.toInt) (b := 6) 42 rfl rfl rfl (by decide) (fun c11 => ?_) (fun c11 => ?_)
      · refine R_iconst 0 rfl rfl ?_
        refine R_istore_n (k := 1) rfl [(1, .inl 0), (0, .inr (.inr (.inl 96)))] rfl rfl (by decide) ?_
        have lp13 : ∀ (n12 : Nat) (h14 : PH) (x16 : Int32), INV h14 → FR [96, 107, 108, 109, 117, 118] h h14 → FR [96, 109] h3 h14 → 0 ≤ x16.toInt ∧ x16.toInt ≤ 2147483647 → (2147483647 - x16.toInt).toNat < n12 → RUN d_X9_startLine 44 [(1, .inl x16), (0, .inr (.inr (.inl 96)))] [] h14 (q_X9_startLine h) := by
          intro n12
          induction n12 with
          | zero => intro h14 x16 m18 m19 m20 m21 hz; exact absurd hz (Nat.not_lt_zero _)
          | succ n12 ih17 =>
            intro h14 x16 hI fr fl15 m21 hz
            have fl4 : FR [96, 107, 108, 109, 117, 118] h h14 := fl4.trans fl15 (by decide)
            refine R_iload_n (k := 1) rfl rfl rfl ?_
            refine R_bipush 23 rfl rfl ?_
            refine N_icmp_ge (a := x16.toInt) (b := 23) 63 rfl rfl rfl (by decide) (fun c22 => ?_) (fun c22 => ?_)
            · refine R_aload_n (k := 0) rfl rfl rfl ?_
              refine R_getf_r (j := 24) rfl ft_9_52 sh_96 rfl ?_
              refine R_iconst 0 rfl rfl ?_
              refine R_aload_n (k := 0) rfl rfl rfl ?_
              refine R_getf_i (j := 19) rfl ft_9_256 sh_96 rfl ?_
              have b23 : (0 : Int) ≤ (h14.1 96 19).toInt ∧ (h14.1 96 19).toInt ≤ 8 := hI.1 96 19
              refine K_iast (a := 0) (lo := (-2147483648)) (hi' := 2147483647) rfl sh_109 (by decide) (by decide) hI (by decide) rfl (i_rng _) fr (by decide) (fun h24 g25 hI fr => ?_)
              have fl15 : FR [96, 109] h3 h24 := by rw [g25]; exact FR_wI _ _ fl15 (by decide)
              have fl4 : FR [96, 107, 108, 109, 117, 118] h h24 := by rw [g25]; exact FR_wI _ _ fl4 (by decide)
              have s26 : (h24.1 96 19).toInt = (h14.1 96 19).toInt := by rw [g25, wI_ne _ _ _ (by decide)]
              refine R_aload_n (k := 0) rfl rfl rfl ?_
              refine R_iconst 0 rfl rfl ?_
              refine K_putf (j := 34) (lo := (-2147483648)) (hi' := 2147483647) rfl ft_9_262 sh_96 rfl hI (by decide) rfl (by decide) fr (by decide) (fun h27 g28 hI fr => ?_)
              have fl15 : FR [96, 109] h3 h27 := by rw [g28]; exact FR_wI _ _ fl15 (by decide)
              have fl4 : FR [96, 107, 108, 109, 117, 118] h h27 := by rw [g28]; exact FR_wI _ _ fl4 (by decide)
              have s29 : (h27.1 96 19).toInt = (h24.1 96 19).toInt := by rw [g28, wI_at (by decide)]
              have s30 : (h27.1 96 34).toInt = 0 := by rw [g28, wI_is]; rfl
              refine R_aload_n (k := 0) rfl rfl rfl ?_
              refine R_iconst 0 rfl rfl ?_
              refine K_putf (j := 35) (lo := (-2147483648)) (hi' := 2147483647) rfl ft_9_265 sh_96 rfl hI (by decide) rfl (by decide) fr (by decide) (fun h31 g32 hI fr => ?_)
              have fl15 : FR [96, 109] h3 h31 := by rw [g32]; exact FR_wI _ _ fl15 (by decide)
              have fl4 : FR [96, 107, 108, 109, 117, 118] h h31 := by rw [g32]; exact FR_wI _ _ fl4 (by decide)
              have s33 : (h31.1 96 19).toInt = (h27.1 96 19).toInt := by rw [g32, wI_at (by decide)]
              have s34 : (h31.1 96 34).toInt = (h27.1 96 34).toInt := by rw [g32, wI_at (by decide)]
              have s35 : (h31.1 96 35).toInt = 0 := by rw [g32, wI_is]; rfl
              refine R_aload_n (k := 0) rfl rfl rfl ?_
              refine R_iconst 0 rfl rfl ?_
              refine K_putf (j := 36) (lo := (-2147483648)) (hi' := 2147483647) rfl ft_9_268 sh_96 rfl hI (by decide) rfl (by decide) fr (by decide) (fun h36 g37 hI fr => ?_)
              have fl15 : FR [96, 109] h3 h36 := by rw [g37]; exact FR_wI _ _ fl15 (by decide)
              have fl4 : FR [96, 107, 108, 109, 117, 118] h h36 := by rw [g37]; exact FR_wI _ _ fl4 (by decide)
              have s38 : (h36.1 96 19).toInt = (h31.1 96 19).toInt := by rw [g37, wI_at (by decide)]
              have s39 : (h36.1 96 34).toInt = (h31.1 96 34).toInt := by rw [g37, wI_at (by decide)]
              have s40 : (h36.1 96 35).toInt = (h31.1 96 35).toInt := by rw [g37, wI_at (by decide)]
              have s41 : (h36.1 96 36).toInt = 0 := by rw [g37, wI_is]; rfl
              exact R_vret rfl rfl ⟨hI, fr, rfl⟩
            · refine R_aload_n (k := 0) rfl rfl rfl ?_
              refine R_getf_r (j := 24) rfl ft_9_52 sh_96 rfl ?_
              refine R_iload_n (k := 1) rfl rfl rfl ?_
              refine R_iconst 0 rfl rfl ?_
              refine K_iast (a := x16.toInt) (lo := (-2147483648)) (hi' := 2147483647) rfl sh_109 rfl ⟨by omega, by omega⟩ hI (by decide) rfl (by decide) fr (by decide) (fun h42 g43 hI fr => ?_)
              have fl15 : FR [96, 109] h3 h42 := by rw [g43]; exact FR_wI _ _ fl15 (by decide)
              have fl4 : FR [96, 107, 108, 109, 117, 118] h h42 := by rw [g43]; exact FR_wI _ _ fl4 (by decide)
              refine N_iinc (a := x16.toInt) (c := 1) (fun w => [(1, .inl w), (0, .inr (.inr (.inl 96)))]) rfl rfl (fun _ => rfl) (by decide) rfl (by decide) (by omega) (fun x44 q45 => ?_)
              refine R_goto 44 rfl rfl ?_
              exact RUN_weak (psub_cons rfl (psub_cons rfl (psub_nil _))) (ih17 h42 x44 hI fr fl15 (by omega) (by omega))
        exact lp13 _ h3 (0 : Int32) hI fr (FR.rf _ _) (by decide) (Nat.lt_succ_self _)
      · refine R_aload_n (k := 0) rfl rfl rfl ?_
        refine R_getf_r (j := 22) rfl ft_9_46 sh_96 rfl ?_
        refine R_iload_n (k := 1) rfl rfl rfl ?_
        refine R_iconst (-1) rfl rfl ?_
        refine K_iast (a := x5.toInt) (lo := (-2147483648)) (hi' := 2147483647) rfl sh_107 rfl ⟨by omega, by omega⟩ hI (by decide) rfl (by decide) fr (by decide) (fun h46 g47 hI fr => ?_)
        have fl4 : FR [96, 107, 108, 109, 117, 118] h h46 := by rw [g47]; exact FR_wI _ _ fl4 (by decide)
        refine R_aload_n (k := 0) rfl rfl rfl ?_
        refine R_getf_r (j := 23) rfl ft_9_49 sh_96 rfl ?_
        refine R_iload_n (k := 1) rfl rfl rfl ?_
        refine R_iconst 0 rfl rfl ?_
        refine K_iast (a := x5.toInt) (lo := (-2147483648)) (hi' := 2147483647) rfl sh_108 rfl ⟨by omega, by omega⟩ hI (by decide) rfl (by decide) fr (by decide) (fun h48 g49 hI fr => ?_)
        have fl4 : FR [96, 107, 108, 109, 117, 118] h h48 := by rw [g49]; exact FR_wI _ _ fl4 (by decide)
        refine R_aload_n (k := 0) rfl rfl rfl ?_
        refine R_getf_r (j := 32) rfl ft_9_76 sh_96 rfl ?_
        refine R_iload_n (k := 1) rfl rfl rfl ?_
        refine R_iconst 0 rfl rfl ?_
        refine K_iast (a := x5.toInt) (lo := (-2147483648)) (hi' := 2147483647) rfl sh_117 rfl ⟨by omega, by omega⟩ hI (by decide) rfl (by decide) fr (by decide) (fun h50 g51 hI fr => ?_)
        have fl4 : FR [96, 107, 108, 109, 117, 118] h h50 := by rw [g51]; exact FR_wI _ _ fl4 (by decide)
        refine R_aload_n (k := 0) rfl rfl rfl ?_
        refine R_getf_r (j := 33) rfl ft_9_79 sh_96 rfl ?_
        refine R_iload_n (k := 1) rfl rfl rfl ?_
        refine R_iconst 0 rfl rfl ?_
        refine K_iast (a := x5.toInt) (lo := (-2147483648)) (hi' := 2147483647) rfl sh_118 rfl ⟨by omega, by omega⟩ hI (by decide) rfl (by decide) fr (by decide) (fun h52 g53 hI fr => ?_)
        have fl4 : FR [96, 107, 108, 109, 117, 118] h h52 := by rw [g53]; exact FR_wI _ _ fl4 (by decide)
        refine N_iinc (a := x5.toInt) (c := 1) (fun w => [(1, .inl w), (0, .inr (.inr (.inl 96)))]) rfl rfl (fun _ => rfl) (by decide) rfl (by decide) (by omega) (fun x54 q55 => ?_)
        refine R_goto 2 rfl rfl ?_
        exact RUN_weak (psub_cons rfl (psub_cons rfl (psub_nil _))) (ih6 h52 x54 hI fr fl4 (by omega) (by omega))
  exact lp2 _ h (0 : Int32) hI fr (FR.rf _ _) (by decide) (Nat.lt_succ_self _)
abbrev q_X9_readyNow (h : PH)  : Option PV → PH → Prop := fun r h' => h = h' ∧ ∃ z : Int32, r = some (.inl z) ∧ ((True))
set_option maxHeartbeats 4000000 in
set_option maxRecDepth 100000 in
theorem k_X9_readyNow (h : PH) (hI : INV h)  : CALL d_X9_readyNow [.inr (.inr (.inl 96))] h (q_X9_readyNow h) := by
  show RUN d_X9_readyNow 0 [(0, .inr (.inr (.inl 96)))] [] h _
  refine R_iconst 0 rfl rfl ?_
  refine R_istore_n (k := 1) rfl [(1, .inl 0), (0, .inr (.inr (.inl 96)))] rfl rfl (by decide) ?_
  refine R_iconst 0 rfl rfl ?_
  refine R_istore_n (k := 2) rfl [(2, .inl 0), (1, .inl 0), (0, .inr (.inr (.inl 96)))] rfl rfl (by decide) ?_
  have lp2 : ∀ (n1 : Nat) (x3 : Int32) (x4 : Int32), 0 ≤ x4.toInt ∧ x4.toInt ≤ 2147483647 → (2147483647 - x4.toInt).toNat < n1 → RUN d_X9_readyNow 4 [(2, .inl x4), (1, .inl x3), (0, .inr (.inr (.inl 96)))] [] h (q_X9_readyNow h) := by
    intro n1
    induction n1 with
    | zero => intro x3 x4 m6 hz; exact absurd hz (Nat.not_lt_zero _)
    | succ n1 ih5 =>
      intro x3 x4 m6 hz
      refine R_iload_n (k := 2) rfl rfl rfl ?_
      refine R_aload_n (k := 0) rfl rfl rfl ?_
      refine R_getf_i (j := 18) rfl ft_9_253 sh_96 rfl ?_
      have b7 : (0 : Int) ≤ (h.1 96 18).toInt ∧ (h.1 96 18).toInt ≤ 6 := hI.1 96 18
      refine N_icmp_ge (a := x4.toInt) (b := (h.1 96 18).toInt) 58 rfl rfl rfl rfl (fun c8 => ?_) (fun c8 => ?_)
      · refine R_iload_n (k := 1) rfl rfl rfl ?_
        exact R_iret rfl rfl rfl ⟨rfl, _, rfl, trivial⟩
      · refine R_iload_n (k := 1) rfl rfl rfl ?_
        refine R_aload_n (k := 0) rfl rfl rfl ?_
        refine R_getf_r (j := 22) rfl ft_9_46 sh_96 rfl ?_
        refine R_aload_n (k := 0) rfl rfl rfl ?_
        refine R_getf_r (j := 17) rfl ft_9_40 sh_96 rfl ?_
        refine R_iload_n (k := 2) rfl rfl rfl ?_
        refine R_iald rfl sh_105 ⟨by omega, by omega⟩ ?_
        refine N_bd (lo := 0) (hi := 5) (hI.1 105 _) (fun x9 q10 => ?_)
        refine R_iald rfl sh_107 ⟨by omega, by omega⟩ ?_
        refine N_any (fun x11 => ?_)
        refine R_aload_n (k := 0) rfl rfl rfl ?_
        refine R_getf_r (j := 15) rfl ft_9_34 sh_96 rfl ?_
        refine R_aload_n (k := 0) rfl rfl rfl ?_
        refine R_getf_r (j := 17) rfl ft_9_40 sh_96 rfl ?_
        refine R_iload_n (k := 2) rfl rfl rfl ?_
        refine R_iald rfl sh_105 ⟨by omega, by omega⟩ ?_
        refine N_bd (lo := 0) (hi := 5) (hI.1 105 _) (fun x12 q13 => ?_)
        refine R_iald rfl sh_103 ⟨by omega, by omega⟩ ?_
        refine N_bd (lo := 0) (hi := 7) (hI.1 103 _) (fun x14 q15 => ?_)
        refine N_icmp_lt (a := x11.toInt) (b := x14.toInt) 49 rfl rfl rfl rfl (fun c16 => ?_) (fun c16 => ?_)
        · refine R_iconst 0 rfl rfl ?_
          refine R_ior rfl ?_
          refine N_any (fun x17 => ?_)
          refine R_istore_n (k := 1) rfl [(1, .inl x17), (2, .inl x4), (0, .inr (.inr (.inl 96)))] rfl rfl (by decide) ?_
          refine N_iinc (a := x4.toInt) (c := 1) (fun w => [(2, .inl w), (1, .inl x17), (0, .inr (.inr (.inl 96)))]) rfl rfl (fun _ => rfl) (by decide) rfl (by decide) (by omega) (fun x18 q19 => ?_)
          refine R_goto 4 rfl rfl ?_
          exact RUN_weak (psub_cons rfl (psub_cons rfl (psub_cons rfl (psub_nil _)))) (ih5 x17 x18 (by omega) (by omega))
        · refine R_iconst 1 rfl rfl ?_
          refine R_aload_n (k := 0) rfl rfl rfl ?_
          refine R_getf_r (j := 17) rfl ft_9_40 sh_96 rfl ?_
          refine R_iload_n (k := 2) rfl rfl rfl ?_
          refine R_iald rfl sh_105 ⟨by omega, by omega⟩ ?_
          refine N_bd (lo := 0) (hi := 5) (hI.1 105 _) (fun x20 q21 => ?_)
          refine N_ishl1 (b := x20.toInt) rfl rfl (by omega) (fun x22 q23 => ?_)
          refine R_goto 50 rfl rfl ?_
          refine R_ior rfl ?_
          refine N_any (fun x24 => ?_)
          refine R_istore_n (k := 1) rfl [(1, .inl x24), (2, .inl x4), (0, .inr (.inr (.inl 96)))] rfl rfl (by decide) ?_
          refine N_iinc (a := x4.toInt) (c := 1) (fun w => [(2, .inl w), (1, .inl x24), (0, .inr (.inr (.inl 96)))]) rfl rfl (fun _ => rfl) (by decide) rfl (by decide) (by omega) (fun x25 q26 => ?_)
          refine R_goto 4 rfl rfl ?_
          exact RUN_weak (psub_cons rfl (psub_cons rfl (psub_cons rfl (psub_nil _)))) (ih5 x24 x25 (by omega) (by omega))
  exact lp2 _ (0 : Int32) (0 : Int32) (by decide) (Nat.lt_succ_self _)
abbrev q_X9_spill (h : PH) (a0 : Int32) : Option PV → PH → Prop := fun r h' => INV h' ∧ FR [96, 108, 117, 118] h h' ∧ r = none
set_option maxHeartbeats 4000000 in
set_option maxRecDepth 100000 in
theorem k_X9_spill (h : PH) (hI : INV h) (a0 : Int32) (h0a : 0 ≤ a0.toInt ∧ a0.toInt ≤ 5) : CALL d_X9_spill [.inr (.inr (.inl 96)), .inl a0] h (q_X9_spill h a0) := by
  show RUN d_X9_spill 0 [(0, .inr (.inr (.inl 96))), (1, .inl a0)] [] h _
  have fr : FR [96, 108, 117, 118] h h := FR.rf _ _
  refine R_aload_n (k := 0) rfl rfl rfl ?_
  refine R_getf_r (j := 23) rfl ft_9_49 sh_96 rfl ?_
  refine R_iload_n (k := 1) rfl rfl rfl ?_
  refine R_iald rfl sh_108 ⟨by omega, by omega⟩ ?_
  refine N_any (fun x1 => ?_)
  refine R_aload_n (k := 0) rfl rfl rfl ?_
  refine R_getf_r (j := 1) rfl ft_9_9 sh_96 rfl ?_
  refine R_bipush 11 rfl rfl ?_
  refine R_iconst 2 rfl rfl ?_
  refine R_iload_n (k := 1) rfl rfl rfl ?_
  refine N_imul (a := 2) (b := a0.toInt) rfl (by decide) rfl (by omega) (fun x2 q3 => ?_)
  refine N_iadd (a := 11) (b := x2.toInt) rfl (by decide) rfl (by omega) (fun x4 q5 => ?_)
  refine R_iconst 1 rfl rfl ?_
  refine N_iadd (a := x4.toInt) (b := 1) rfl rfl (by decide) (by omega) (fun x6 q7 => ?_)
  refine R_iald rfl sh_97 ⟨by omega, by omega⟩ ?_
  refine N_any (fun x8 => ?_)
  refine N_min (a := x1.toInt) (b := x8.toInt) rfl mt_9_i167 rfl rfl ⟨by decide, by decide, Nat.le_of_ble_eq_true rfl⟩ (fun x9 q10 => ?_)
  refine R_istore_n (k := 2) rfl [(2, .inl x9), (0, .inr (.inr (.inl 96))), (1, .inl a0)] rfl rfl (by decide) ?_
  refine R_aload_n (k := 0) rfl rfl rfl ?_
  refine R_getf_r (j := 23) rfl ft_9_49 sh_96 rfl ?_
  refine R_iload_n (k := 1) rfl rfl rfl ?_
  refine R_dup2 rfl ?_
  refine R_iald rfl sh_108 ⟨by omega, by omega⟩ ?_
  refine N_any (fun x11 => ?_)
  refine R_iload_n (k := 2) rfl rfl rfl ?_
  have b12 := i_rng x11
  have b13 := i_rng x9
  refine R_isub rfl ?_
  refine N_any (fun x14 => ?_)
  refine K_iast (a := a0.toInt) (lo := (-2147483648)) (hi' := 2147483647) rfl sh_108 rfl ⟨by omega, by omega⟩ hI (by decide) rfl (i_rng _) fr (by decide) (fun h15 g16 hI fr => ?_)
  refine R_aload_n (k := 0) rfl rfl rfl ?_
  refine R_getf_r (j := 33) rfl ft_9_79 sh_96 rfl ?_
  refine R_iload_n (k := 1) rfl rfl rfl ?_
  refine R_dup2 rfl ?_
  refine R_iald rfl sh_118 ⟨by omega, by omega⟩ ?_
  refine N_any (fun x17 => ?_)
  refine R_iload_n (k := 2) rfl rfl rfl ?_
  have b18 := i_rng x17
  have b19 := i_rng x9
  refine R_iadd rfl ?_
  refine N_any (fun x20 => ?_)
  refine K_iast (a := a0.toInt) (lo := (-2147483648)) (hi' := 2147483647) rfl sh_118 rfl ⟨by omega, by omega⟩ hI (by decide) rfl (i_rng _) fr (by decide) (fun h21 g22 hI fr => ?_)
  refine R_aload_n (k := 0) rfl rfl rfl ?_
  refine R_dup_r rfl ?_
  refine R_getf_i (j := 36) rfl ft_9_268 sh_96 rfl ?_
  refine R_iload_n (k := 2) rfl rfl rfl ?_
  have b23 := i_rng (h21.1 96 36)
  have b24 := i_rng x9
  refine R_iadd rfl ?_
  refine N_any (fun x25 => ?_)
  refine K_putf (j := 36) (lo := (-2147483648)) (hi' := 2147483647) rfl ft_9_268 sh_96 rfl hI (by decide) rfl (i_rng _) fr (by decide) (fun h26 g27 hI fr => ?_)
  have s28 : (h26.1 96 36).toInt = x25.toInt := by rw [g27, wI_is]
  refine R_aload_n (k := 0) rfl rfl rfl ?_
  refine R_getf_r (j := 32) rfl ft_9_76 sh_96 rfl ?_
  refine R_iload_n (k := 1) rfl rfl rfl ?_
  refine R_dup2 rfl ?_
  refine R_iald rfl sh_117 ⟨by omega, by omega⟩ ?_
  refine N_any (fun x29 => ?_)
  refine R_iconst 1 rfl rfl ?_
  have b30 := i_rng x29
  refine R_iadd rfl ?_
  refine N_any (fun x31 => ?_)
  refine K_iast (a := a0.toInt) (lo := (-2147483648)) (hi' := 2147483647) rfl sh_117 rfl ⟨by omega, by omega⟩ hI (by decide) rfl (i_rng _) fr (by decide) (fun h32 g33 hI fr => ?_)
  have s34 : (h32.1 96 36).toInt = (h26.1 96 36).toInt := by rw [g33, wI_ne _ _ _ (by decide)]
  exact R_vret rfl rfl ⟨hI, fr, rfl⟩
abbrev q_X9_bit (h : PH) (a0 : Int32) (a1 : Int32) : Option PV → PH → Prop := fun r h' => h = h' ∧ ∃ z : Int32, r = some (.inl z) ∧ ((0 ≤ z.toInt ∧ z.toInt ≤ 1))
set_option maxHeartbeats 4000000 in
set_option maxRecDepth 100000 in
theorem k_X9_bit (h : PH) (hI : INV h) (a0 : Int32) (a1 : Int32) (h1a : 0 ≤ a1.toInt ∧ a1.toInt ≤ 2147483647) : CALL d_X9_bit [.inl a0, .inl a1] h (q_X9_bit h a0 a1) := by
  show RUN d_X9_bit 0 [(0, .inl a0), (1, .inl a1)] [] h _
  have b1 := i_rng a0
  refine R_iload_n (k := 0) rfl rfl rfl ?_
  refine R_iload_n (k := 1) rfl rfl rfl ?_
  refine R_ishr rfl ?_
  refine N_any (fun x2 => ?_)
  refine R_iconst 1 rfl rfl ?_
  refine N_iand (b := 1) rfl (by decide) (by omega) (fun x3 q4 => ?_)
  exact R_iret rfl rfl rfl ⟨rfl, _, rfl, by omega⟩
abbrev q_X9_passedIn (h : PH) (a0 : Int32) (a1 : Int32) : Option PV → PH → Prop := fun r h' => h = h' ∧ ∃ z : Int32, r = some (.inl z) ∧ ((True))
set_option maxHeartbeats 4000000 in
set_option maxRecDepth 100000 in
theorem k_X9_passedIn (h : PH) (hI : INV h) (a0 : Int32) (a1 : Int32) (h0a : 0 ≤ a0.toInt ∧ a0.toInt ≤ 5) (h1a : 0 ≤ a1.toInt ∧ a1.toInt ≤ 59) : CALL d_X9_passedIn [.inr (.inr (.inl 96)), .inl a0, .inl a1] h (q_X9_passedIn h a0 a1) := by
  show RUN d_X9_passedIn 0 [(0, .inr (.inr (.inl 96))), (1, .inl a0), (2, .inl a1)] [] h _
  refine R_iload_n (k := 2) rfl rfl rfl ?_
  refine N_if_ne (a := a1.toInt) 13 rfl rfl rfl (fun c1 => ?_) (fun c1 => ?_)
  · refine R_aload_n (k := 0) rfl rfl rfl ?_
    refine R_getf_r (j := 32) rfl ft_9_76 sh_96 rfl ?_
    refine R_iload_n (k := 1) rfl rfl rfl ?_
    refine R_iald rfl sh_117 ⟨by omega, by omega⟩ ?_
    refine N_any (fun x2 => ?_)
    refine R_aload_n (k := 0) rfl rfl rfl ?_
    refine R_getf_r (j := 37) rfl ft_9_82 sh_96 rfl ?_
    refine R_iload_n (k := 1) rfl rfl rfl ?_
    refine R_iald rfl sh_119 ⟨by omega, by omega⟩ ?_
    refine N_any (fun x3 => ?_)
    have b4 := i_rng x2
    have b5 := i_rng x3
    refine R_isub rfl ?_
    refine N_any (fun x6 => ?_)
    exact R_iret rfl rfl rfl ⟨rfl, _, rfl, trivial⟩
  · refine R_aload_n (k := 0) rfl rfl rfl ?_
    refine R_getf_r (j := 32) rfl ft_9_76 sh_96 rfl ?_
    refine R_iload_n (k := 1) rfl rfl rfl ?_
    refine R_iald rfl sh_117 ⟨by omega, by omega⟩ ?_
    refine N_any (fun x7 => ?_)
    refine R_goto 26 rfl rfl ?_
    exact R_iret rfl rfl rfl ⟨rfl, _, rfl, trivial⟩
abbrev q_X9_isSecond (h : PH) (a0 : Int64) : Option PV → PH → Prop := fun r h' => h = h' ∧ ∃ z : Int32, r = some (.inl z) ∧ ((z.toInt = 0 ∧ a0.toInt ≤ (-1)) ∨ (z.toInt = 0 ∧ 0 ≤ a0.toInt) ∨ (z.toInt = 1 ∧ 0 ≤ a0.toInt ∧ a0.toInt ≤ 59))
set_option maxHeartbeats 4000000 in
set_option maxRecDepth 100000 in
theorem k_X9_isSecond (h : PH) (hI : INV h) (a0 : Int64) : CALL d_X9_isSecond [.inr (.inr (.inl 96)), .inr (.inl a0)] h (q_X9_isSecond h a0) := by
  show RUN d_X9_isSecond 0 [(0, .inr (.inr (.inl 96))), (1, .inr (.inl a0))] [] h _
  refine R_lload_n (k := 1) rfl rfl rfl ?_
  refine R_lconst 0 rfl rfl ?_
  refine R_aload_n (k := 0) rfl rfl rfl ?_
  refine R_callV (v := .inr (.inr (.inl 96))) (As := []) (rest := [.inr (.inl 0), .inr (.inl a0)]) rfl mt_9_i129 pp_X9_last (by decide) rfl rfl rfl (Nat.le_of_ble_eq_true rfl) (Nat.le_of_ble_eq_true rfl) ((k_X9_last h hI).mono (fun r1 h2 p3 => ?_))
  obtain ⟨rfl, x4, rfl, q5⟩ := p3
  show RUN d_X9_isSecond 6 [(0, .inr (.inr (.inl 96))), (1, .inr (.inl a0))] [.inl x4, .inr (.inl 0), .inr (.inl a0)] h _
  refine N_i2l rfl (fun w6 q7 => ?_)
  have k8 : (0 : Int64).toInt = 0 := by decide
  refine R_callS (As := [.inr (.inl a0), .inr (.inl 0), .inr (.inl w6)]) (rest := []) rfl mt_9_i125 (by decide) pp_X9_in (by decide) rfl rfl (Nat.le_of_ble_eq_true rfl) (Nat.le_of_ble_eq_true rfl) ((k_X9_in h hI a0 (0 : Int64) w6).mono (fun r9 h10 p11 => ?_))
  obtain ⟨rfl, x12, rfl, q13 | q13 | q13⟩ := p11
  · show RUN d_X9_isSecond 10 [(0, .inr (.inr (.inl 96))), (1, .inr (.inl a0))] [.inl x12] h _
    exact R_iret rfl rfl (nar_z (by omega)) ⟨rfl, _, rfl, by omega⟩
  · show RUN d_X9_isSecond 10 [(0, .inr (.inr (.inl 96))), (1, .inr (.inl a0))] [.inl x12] h _
    exact R_iret rfl rfl (nar_z (by omega)) ⟨rfl, _, rfl, by omega⟩
  · show RUN d_X9_isSecond 10 [(0, .inr (.inr (.inl 96))), (1, .inr (.inl a0))] [.inl x12] h _
    exact R_iret rfl rfl (nar_z (by omega)) ⟨rfl, _, rfl, by omega⟩
abbrev q_X6_heldAt (h : PH) (a0 : Int32) (a1 : Int32) : Option PV → PH → Prop := fun r h' => h = h' ∧ ∃ z : Int32, r = some (.inl z) ∧ ((True))
set_option maxHeartbeats 4000000 in
set_option maxRecDepth 100000 in
theorem k_X6_heldAt (h : PH) (hI : INV h) (a0 : Int32) (a1 : Int32) (h0a : 0 ≤ a0.toInt ∧ a0.toInt ≤ 5) (h1a : 0 ≤ a1.toInt ∧ a1.toInt ≤ 59) : CALL d_X6_heldAt [.inr (.inr (.inl 75)), .inl a0, .inl a1] h (q_X6_heldAt h a0 a1) := by
  show RUN d_X6_heldAt 0 [(0, .inr (.inr (.inl 75))), (1, .inl a0), (2, .inl a1)] [] h _
  refine R_aload_n (k := 0) rfl rfl rfl ?_
  refine R_getf_r (j := 0) rfl ft_6_9 sh_75 rfl ?_
  refine R_iload_n (k := 2) rfl rfl rfl ?_
  refine R_bipush 6 rfl rfl ?_
  refine N_imul (a := a1.toInt) (b := 6) rfl rfl (by decide) (by omega) (fun x1 q2 => ?_)
  refine R_iload_n (k := 1) rfl rfl rfl ?_
  refine N_iadd (a := x1.toInt) (b := a0.toInt) rfl rfl rfl (by omega) (fun x3 q4 => ?_)
  refine R_iald rfl sh_76 ⟨by omega, by omega⟩ ?_
  refine N_any (fun x5 => ?_)
  exact R_iret rfl rfl rfl ⟨rfl, _, rfl, trivial⟩
abbrev q_X8_held (h : PH) (a0 : Int32) (a1 : Int32) : Option PV → PH → Prop := fun r h' => INV h' ∧ FR [0, 70, 71, 72, 73, 74, 75, 76, 77, 78, 79, 80, 81, 82, 83, 84, 85, 86] h h' ∧ ∃ z : Int32, r = some (.inl z) ∧ ((True))
set_option maxHeartbeats 4000000 in
set_option maxRecDepth 100000 in
theorem k_X8_held (h : PH) (hI : INV h) (a0 : Int32) (a1 : Int32) : CALL d_X8_held [.inr (.inr (.inl 0)), .inl a0, .inl a1] h (q_X8_held h a0 a1) := by
  show RUN d_X8_held 0 [(0, .inr (.inr (.inl 0))), (1, .inl a0), (2, .inl a1)] [] h _
  have b1 := i_rng a0
  have b2 := i_rng a1
  have fr : FR [0, 70, 71, 72, 73, 74, 75, 76, 77, 78, 79, 80, 81, 82, 83, 84, 85, 86] h h := FR.rf _ _
  refine R_aload_n (k := 0) rfl rfl rfl ?_
  refine R_getf_r (j := 3) rfl ft_8_28 sh_0 rfl ?_
  refine R_iload_n (k := 1) rfl rfl rfl ?_
  refine R_callV (v := .inr (.inr (.inl 16))) (As := [.inl a0]) (rest := []) rfl mt_8_i119 pp_X1_hasHand (by decide) rfl rfl rfl (Nat.le_of_ble_eq_true rfl) (Nat.le_of_ble_eq_true rfl) ((k_X1_hasHand h hI a0).mono (fun r3 h4 p5 => ?_))
  obtain ⟨rfl, x6, rfl, q7 | q7 | q7⟩ := p5
  · show RUN d_X8_held 8 [(0, .inr (.inr (.inl 0))), (1, .inl a0), (2, .inl a1)] [.inl x6] h _
    refine N_if_eq (a := x6.toInt) 22 rfl rfl rfl (fun c8 => ?_) (fun c8 => ?_)
    · refine R_bipush (-2) rfl rfl ?_
      exact R_iret rfl rfl rfl ⟨hI, fr, _, rfl, trivial⟩
    · exfalso; omega
  · have b9 : (0 : Int) ≤ (h.1 17 5).toInt ∧ (h.1 17 5).toInt ≤ 6 := hI.1 17 5
    show RUN d_X8_held 8 [(0, .inr (.inr (.inl 0))), (1, .inl a0), (2, .inl a1)] [.inl x6] h _
    refine N_if_eq (a := x6.toInt) 22 rfl rfl rfl (fun c10 => ?_) (fun c10 => ?_)
    · refine R_bipush (-2) rfl rfl ?_
      exact R_iret rfl rfl rfl ⟨hI, fr, _, rfl, trivial⟩
    · exfalso; omega
  · have b11 : (0 : Int) ≤ (h.1 17 5).toInt ∧ (h.1 17 5).toInt ≤ 6 := hI.1 17 5
    show RUN d_X8_held 8 [(0, .inr (.inr (.inl 0))), (1, .inl a0), (2, .inl a1)] [.inl x6] h _
    refine N_if_eq (a := x6.toInt) 22 rfl rfl rfl (fun c12 => ?_) (fun c12 => ?_)
    · exfalso; omega
    · refine R_aload_n (k := 0) rfl rfl rfl ?_
      refine R_getf_r (j := 3) rfl ft_8_28 sh_0 rfl ?_
      refine R_iload_n (k := 2) rfl rfl rfl ?_
      refine R_callV (v := .inr (.inr (.inl 16))) (As := [.inl a1]) (rest := []) rfl mt_8_i150 pp_X1_hasSecond (by decide) rfl rfl rfl (Nat.le_of_ble_eq_true rfl) (Nat.le_of_ble_eq_true rfl) ((k_X1_hasSecond h hI a1).mono (fun r13 h14 p15 => ?_))
      obtain ⟨rfl, x16, rfl, q17 | q17 | q17⟩ := p15
      · show RUN d_X8_held 19 [(0, .inr (.inr (.inl 0))), (1, .inl a0), (2, .inl a1)] [.inl x16] h _
        refine N_if_ne (a := x16.toInt) 25 rfl rfl rfl (fun c18 => ?_) (fun c18 => ?_)
        · exfalso; omega
        · refine R_bipush (-2) rfl rfl ?_
          exact R_iret rfl rfl rfl ⟨hI, fr, _, rfl, trivial⟩
      · have b19 : (0 : Int) ≤ (h.1 17 0).toInt ∧ (h.1 17 0).toInt ≤ 60 := hI.1 17 0
        show RUN d_X8_held 19 [(0, .inr (.inr (.inl 0))), (1, .inl a0), (2, .inl a1)] [.inl x16] h _
        refine N_if_ne (a := x16.toInt) 25 rfl rfl rfl (fun c20 => ?_) (fun c20 => ?_)
        · exfalso; omega
        · refine R_bipush (-2) rfl rfl ?_
          exact R_iret rfl rfl rfl ⟨hI, fr, _, rfl, trivial⟩
      · have b21 : (0 : Int) ≤ (h.1 17 0).toInt ∧ (h.1 17 0).toInt ≤ 60 := hI.1 17 0
        show RUN d_X8_held 19 [(0, .inr (.inr (.inl 0))), (1, .inl a0), (2, .inl a1)] [.inl x16] h _
        refine N_if_ne (a := x16.toInt) 25 rfl rfl rfl (fun c22 => ?_) (fun c22 => ?_)
        · refine R_aload_n (k := 0) rfl rfl rfl ?_
          refine R_callV (v := .inr (.inr (.inl 0))) (As := []) (rest := []) rfl mt_8_i153 pp_X8_told (by decide) rfl rfl rfl (Nat.le_of_ble_eq_true rfl) (Nat.le_of_ble_eq_true rfl) ((k_X8_told h hI).mono (fun r23 h24 p25 => ?_))
          obtain ⟨hJ, fj, rfl⟩ := p25
          have f26 := fj
          have fr := fr.trans fj (by decide)
          have hI := hJ
          have s27 : (h24.1 17 5).toInt = (h.1 17 5).toInt := by rw [(f26 17 (by decide)).1]
          have s28 : (h24.1 17 0).toInt = (h.1 17 0).toInt := by rw [(f26 17 (by decide)).1]
          show RUN d_X8_held 29 [(0, .inr (.inr (.inl 0))), (1, .inl a0), (2, .inl a1)] [.inr (.inr (.inl 75))] h24 _
          refine R_getf_r (j := 1) rfl ft_8_157 sh_75 rfl ?_
          refine R_iload_n (k := 2) rfl rfl rfl ?_
          refine R_iald rfl sh_77 ⟨by omega, by omega⟩ ?_
          refine N_any (fun x29 => ?_)
          refine N_i2l rfl (fun w30 q31 => ?_)
          refine R_iload_n (k := 1) rfl rfl rfl ?_
          refine R_callS (As := [.inr (.inl w30), .inl a0]) (rest := []) rfl mt_8_i160 (by decide) pp_X8_hasBit (by decide) rfl rfl (Nat.le_of_ble_eq_true rfl) (Nat.le_of_ble_eq_true rfl) ((k_X8_hasBit h24 hI w30 a0).mono (fun r32 h33 p34 => ?_))
          obtain ⟨rfl, x35, rfl, q36 | q36⟩ := p34
          · show RUN d_X8_held 39 [(0, .inr (.inr (.inl 0))), (1, .inl a0), (2, .inl a1)] [.inl x35] h24 _
            refine N_if_eq (a := x35.toInt) 54 rfl rfl rfl (fun c37 => ?_) (fun c37 => ?_)
            · refine R_iconst (-1) rfl rfl ?_
              exact R_iret rfl rfl rfl ⟨hI, fr, _, rfl, trivial⟩
            · exfalso; omega
          · show RUN d_X8_held 39 [(0, .inr (.inr (.inl 0))), (1, .inl a0), (2, .inl a1)] [.inl x35] h24 _
            refine N_if_eq (a := x35.toInt) 54 rfl rfl rfl (fun c38 => ?_) (fun c38 => ?_)
            · exfalso; omega
            · refine R_aload_n (k := 0) rfl rfl rfl ?_
              refine R_getf_r (j := 8) rfl ft_8_56 sh_0 rfl ?_
              refine R_iload_n (k := 1) rfl rfl rfl ?_
              refine R_iload_n (k := 2) rfl rfl rfl ?_
              refine R_callV (v := .inr (.inr (.inl 75))) (As := [.inl a0, .inl a1]) (rest := []) rfl mt_8_i167 pp_X6_heldAt (by decide) rfl rfl rfl (Nat.le_of_ble_eq_true rfl) (Nat.le_of_ble_eq_true rfl) ((k_X6_heldAt h24 hI a0 a1 (by omega) (by omega)).mono (fun r39 h40 p41 => ?_))
              obtain ⟨rfl, x42, rfl, q43⟩ := p41
              show RUN d_X8_held 51 [(0, .inr (.inr (.inl 0))), (1, .inl a0), (2, .inl a1)] [.inl x42] h24 _
              refine R_goto 55 rfl rfl ?_
              exact R_iret rfl rfl rfl ⟨hI, fr, _, rfl, trivial⟩
        · exfalso; omega
