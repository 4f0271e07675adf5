abbrev q_X1_copyFrom_5 (h : PH)  : Option PV → PH → Prop := fun r h' => INV h' ∧ FR [17, 18, 19, 20, 21, 22, 23, 24, 25, 26, 27] h h' ∧ (True) ∧ r = none
set_option maxHeartbeats 4000000 in
set_option maxRecDepth 100000 in
theorem k_X1_copyFrom_5 (h : PH) (hI : INV h)  : CALL d_X1_copyFrom [.inr (.inr (.inl 16)), .inr (.inr (.inl 40))] h (q_X1_copyFrom_5 h) := by
  show RUN d_X1_copyFrom 0 [(0, .inr (.inr (.inl 16))), (1, .inr (.inr (.inl 40)))] [] h _
  have fr : FR [17, 18, 19, 20, 21, 22, 23, 24, 25, 26, 27] h h := FR.rf _ _
  refine R_aload_n (k := 1) rfl rfl rfl ?_
  refine R_getf_r (j := 0) rfl ft_1_9 sh_40 rfl ?_
  refine R_iconst 0 rfl rfl ?_
  refine R_aload_n (k := 0) rfl rfl rfl ?_
  refine R_getf_r (j := 0) rfl ft_1_9 sh_16 rfl ?_
  refine R_iconst 0 rfl rfl ?_
  refine R_bipush 11 rfl rfl ?_
  refine K_cpyC rfl mt_1_i46 sh_41 sh_17 ⟨by decide, by decide, Nat.le_of_ble_eq_true rfl⟩ hI (by decide) (by decide) rfl fr (by decide) (fun h1 g2 hI fr => ?_)
  refine R_aload_n (k := 1) rfl rfl rfl ?_
  refine R_getf_r (j := 1) rfl ft_1_15 sh_40 rfl ?_
  refine R_iconst 0 rfl rfl ?_
  refine R_aload_n (k := 0) rfl rfl rfl ?_
  refine R_getf_r (j := 1) rfl ft_1_15 sh_16 rfl ?_
  refine R_iconst 0 rfl rfl ?_
  refine R_bipush 6 rfl rfl ?_
  refine K_cpyA rfl mt_1_i46 sh_42 sh_18 (by decide) ⟨by decide, by decide, Nat.le_of_ble_eq_true rfl⟩ hI (by decide) rfl fr (by decide) (fun h3 g4 hI fr => ?_)
  refine R_aload_n (k := 1) rfl rfl rfl ?_
  refine R_getf_r (j := 2) rfl ft_1_18 sh_40 rfl ?_
  refine R_iconst 0 rfl rfl ?_
  refine R_aload_n (k := 0) rfl rfl rfl ?_
  refine R_getf_r (j := 2) rfl ft_1_18 sh_16 rfl ?_
  refine R_iconst 0 rfl rfl ?_
  refine R_bipush 6 rfl rfl ?_
  refine K_cpyA rfl mt_1_i46 sh_43 sh_19 (by decide) ⟨by decide, by decide, Nat.le_of_ble_eq_true rfl⟩ hI (by decide) rfl fr (by decide) (fun h5 g6 hI fr => ?_)
  refine R_aload_n (k := 1) rfl rfl rfl ?_
  refine R_getf_r (j := 3) rfl ft_1_21 sh_40 rfl ?_
  refine R_iconst 0 rfl rfl ?_
  refine R_aload_n (k := 0) rfl rfl rfl ?_
  refine R_getf_r (j := 3) rfl ft_1_21 sh_16 rfl ?_
  refine R_iconst 0 rfl rfl ?_
  refine R_bipush 6 rfl rfl ?_
  refine K_cpyA rfl mt_1_i46 sh_44 sh_20 (by decide) ⟨by decide, by decide, Nat.le_of_ble_eq_true rfl⟩ hI (by decide) rfl fr (by decide) (fun h7 g8 hI fr => ?_)
  refine R_aload_n (k := 1) rfl rfl rfl ?_
  refine R_getf_r (j := 4) rfl ft_1_24 sh_40 rfl ?_
  refine R_iconst 0 rfl rfl ?_
  refine R_aload_n (k := 0) rfl rfl rfl ?_
  refine R_getf_r (j := 4) rfl ft_1_24 sh_16 rfl ?_
  refine R_iconst 0 rfl rfl ?_
  refine R_bipush 6 rfl rfl ?_
  have k11 : (0 : Int32).toInt = 0 := by decide
  have k12 : (0 : Int32).toInt = 0 := by decide
  have k13 : (6 : Int32).toInt = 6 := by decide
  refine K_cpyL rfl mt_1_i46 sh_45 sh_21 (by omega) ⟨by decide, by decide, Nat.le_of_ble_eq_true rfl⟩ hI fr (by decide) (fun h9 g10 hI fr => ?_)
  refine R_aload_n (k := 1) rfl rfl rfl ?_
  refine R_getf_r (j := 5) rfl ft_1_28 sh_40 rfl ?_
  refine R_iconst 0 rfl rfl ?_
  refine R_aload_n (k := 0) rfl rfl rfl ?_
  refine R_getf_r (j := 5) rfl ft_1_28 sh_16 rfl ?_
  refine R_iconst 0 rfl rfl ?_
  refine R_iconst 5 rfl rfl ?_
  refine K_cpyA rfl mt_1_i46 sh_46 sh_22 (by decide) ⟨by decide, by decide, Nat.le_of_ble_eq_true rfl⟩ hI (by decide) rfl fr (by decide) (fun h14 g15 hI fr => ?_)
  refine R_aload_n (k := 1) rfl rfl rfl ?_
  refine R_getf_r (j := 6) rfl ft_1_31 sh_40 rfl ?_
  refine R_iconst 0 rfl rfl ?_
  refine R_aload_n (k := 0) rfl rfl rfl ?_
  refine R_getf_r (j := 6) rfl ft_1_31 sh_16 rfl ?_
  refine R_iconst 0 rfl rfl ?_
  refine R_iconst 5 rfl rfl ?_
  refine K_cpyA rfl mt_1_i46 sh_47 sh_23 (by decide) ⟨by decide, by decide, Nat.le_of_ble_eq_true rfl⟩ hI (by decide) rfl fr (by decide) (fun h16 g17 hI fr => ?_)
  refine R_aload_n (k := 1) rfl rfl rfl ?_
  refine R_getf_r (j := 7) rfl ft_1_34 sh_40 rfl ?_
  refine R_iconst 0 rfl rfl ?_
  refine R_aload_n (k := 0) rfl rfl rfl ?_
  refine R_getf_r (j := 7) rfl ft_1_34 sh_16 rfl ?_
  refine R_iconst 0 rfl rfl ?_
  refine R_iconst 5 rfl rfl ?_
  refine K_cpyA rfl mt_1_i46 sh_48 sh_24 (by decide) ⟨by decide, by decide, Nat.le_of_ble_eq_true rfl⟩ hI (by decide) rfl fr (by decide) (fun h18 g19 hI fr => ?_)
  refine R_aload_n (k := 1) rfl rfl rfl ?_
  refine R_getf_r (j := 8) rfl ft_1_37 sh_40 rfl ?_
  refine R_iconst 0 rfl rfl ?_
  refine R_aload_n (k := 0) rfl rfl rfl ?_
  refine R_getf_r (j := 8) rfl ft_1_37 sh_16 rfl ?_
  refine R_iconst 0 rfl rfl ?_
  refine R_bipush 30 rfl rfl ?_
  refine K_cpyA rfl mt_1_i46 sh_49 sh_25 (by decide) ⟨by decide, by decide, Nat.le_of_ble_eq_true rfl⟩ hI (by decide) rfl fr (by decide) (fun h20 g21 hI fr => ?_)
  refine R_aload_n (k := 1) rfl rfl rfl ?_
  refine R_getf_r (j := 9) rfl ft_1_40 sh_40 rfl ?_
  refine R_iconst 0 rfl rfl ?_
  refine R_aload_n (k := 0) rfl rfl rfl ?_
  refine R_getf_r (j := 9) rfl ft_1_40 sh_16 rfl ?_
  refine R_iconst 0 rfl rfl ?_
  refine R_bipush 30 rfl rfl ?_
  refine K_cpyA rfl mt_1_i46 sh_50 sh_26 (by decide) ⟨by decide, by decide, Nat.le_of_ble_eq_true rfl⟩ hI (by decide) rfl fr (by decide) (fun h22 g23 hI fr => ?_)
  refine R_aload_n (k := 1) rfl rfl rfl ?_
  refine R_getf_r (j := 10) rfl ft_1_43 sh_40 rfl ?_
  refine R_iconst 0 rfl rfl ?_
  refine R_aload_n (k := 0) rfl rfl rfl ?_
  refine R_getf_r (j := 10) rfl ft_1_43 sh_16 rfl ?_
  refine R_iconst 0 rfl rfl ?_
  refine R_bipush 30 rfl rfl ?_
  refine K_cpyA rfl mt_1_i46 sh_51 sh_27 (by decide) ⟨by decide, by decide, Nat.le_of_ble_eq_true rfl⟩ hI (by decide) rfl fr (by decide) (fun h24 g25 hI fr => ?_)
  exact R_vret rfl rfl ⟨hI, fr, trivial, rfl⟩
abbrev q_X1_copyFrom_6 (h : PH)  : Option PV → PH → Prop := fun r h' => INV h' ∧ FR [17, 18, 19, 20, 21, 22, 23, 24, 25, 26, 27] h h' ∧ (True) ∧ r = none
set_option maxHeartbeats 4000000 in
set_option maxRecDepth 100000 in
theorem k_X1_copyFrom_6 (h : PH) (hI : INV h)  : CALL d_X1_copyFrom [.inr (.inr (.inl 16)), .inr (.inr (.inl 52))] h (q_X1_copyFrom_6 h) := by
  show RUN d_X1_copyFrom 0 [(0, .inr (.inr (.inl 16))), (1, .inr (.inr (.inl 52)))] [] h _
  have fr : FR [17, 18, 19, 20, 21, 22, 23, 24, 25, 26, 27] h h := FR.rf _ _
  refine R_aload_n (k := 1) rfl rfl rfl ?_
  refine R_getf_r (j := 0) rfl ft_1_9 sh_52 rfl ?_
  refine R_iconst 0 rfl rfl ?_
  refine R_aload_n (k := 0) rfl rfl rfl ?_
  refine R_getf_r (j := 0) rfl ft_1_9 sh_16 rfl ?_
  refine R_iconst 0 rfl rfl ?_
  refine R_bipush 11 rfl rfl ?_
  refine K_cpyC rfl mt_1_i46 sh_53 sh_17 ⟨by decide, by decide, Nat.le_of_ble_eq_true rfl⟩ hI (by decide) (by decide) rfl fr (by decide) (fun h1 g2 hI fr => ?_)
  refine R_aload_n (k := 1) rfl rfl rfl ?_
  refine R_getf_r (j := 1) rfl ft_1_15 sh_52 rfl ?_
  refine R_iconst 0 rfl rfl ?_
  refine R_aload_n (k := 0) rfl rfl rfl ?_
  refine R_getf_r (j := 1) rfl ft_1_15 sh_16 rfl ?_
  refine R_iconst 0 rfl rfl ?_
  refine R_bipush 6 rfl rfl ?_
  refine K_cpyA rfl mt_1_i46 sh_54 sh_18 (by decide) ⟨by decide, by decide, Nat.le_of_ble_eq_true rfl⟩ hI (by decide) rfl fr (by decide) (fun h3 g4 hI fr => ?_)
  refine R_aload_n (k := 1) rfl rfl rfl ?_
  refine R_getf_r (j := 2) rfl ft_1_18 sh_52 rfl ?_
  refine R_iconst 0 rfl rfl ?_
  refine R_aload_n (k := 0) rfl rfl rfl ?_
  refine R_getf_r (j := 2) rfl ft_1_18 sh_16 rfl ?_
  refine R_iconst 0 rfl rfl ?_
  refine R_bipush 6 rfl rfl ?_
  refine K_cpyA rfl mt_1_i46 sh_55 sh_19 (by decide) ⟨by decide, by decide, Nat.le_of_ble_eq_true rfl⟩ hI (by decide) rfl fr (by decide) (fun h5 g6 hI fr => ?_)
  refine R_aload_n (k := 1) rfl rfl rfl ?_
  refine R_getf_r (j := 3) rfl ft_1_21 sh_52 rfl ?_
  refine R_iconst 0 rfl rfl ?_
  refine R_aload_n (k := 0) rfl rfl rfl ?_
  refine R_getf_r (j := 3) rfl ft_1_21 sh_16 rfl ?_
  refine R_iconst 0 rfl rfl ?_
  refine R_bipush 6 rfl rfl ?_
  refine K_cpyA rfl mt_1_i46 sh_56 sh_20 (by decide) ⟨by decide, by decide, Nat.le_of_ble_eq_true rfl⟩ hI (by decide) rfl fr (by decide) (fun h7 g8 hI fr => ?_)
  refine R_aload_n (k := 1) rfl rfl rfl ?_
  refine R_getf_r (j := 4) rfl ft_1_24 sh_52 rfl ?_
  refine R_iconst 0 rfl rfl ?_
  refine R_aload_n (k := 0) rfl rfl rfl ?_
  refine R_getf_r (j := 4) rfl ft_1_24 sh_16 rfl ?_
  refine R_iconst 0 rfl rfl ?_
  refine R_bipush 6 rfl rfl ?_
  have k11 : (0 : Int32).toInt = 0 := by decide
  have k12 : (0 : Int32).toInt = 0 := by decide
  have k13 : (6 : Int32).toInt = 6 := by decide
  refine K_cpyL rfl mt_1_i46 sh_57 sh_21 (by omega) ⟨by decide, by decide, Nat.le_of_ble_eq_true rfl⟩ hI fr (by decide) (fun h9 g10 hI fr => ?_)
  refine R_aload_n (k := 1) rfl rfl rfl ?_
  refine R_getf_r (j := 5) rfl ft_1_28 sh_52 rfl ?_
  refine R_iconst 0 rfl rfl ?_
  refine R_aload_n (k := 0) rfl rfl rfl ?_
  refine R_getf_r (j := 5) rfl ft_1_28 sh_16 rfl ?_
  refine R_iconst 0 rfl rfl ?_
  refine R_iconst 5 rfl rfl ?_
  refine K_cpyA rfl mt_1_i46 sh_58 sh_22 (by decide) ⟨by decide, by decide, Nat.le_of_ble_eq_true rfl⟩ hI (by decide) rfl fr (by decide) (fun h14 g15 hI fr => ?_)
  refine R_aload_n (k := 1) rfl rfl rfl ?_
  refine R_getf_r (j := 6) rfl ft_1_31 sh_52 rfl ?_
  refine R_iconst 0 rfl rfl ?_
  refine R_aload_n (k := 0) rfl rfl rfl ?_
  refine R_getf_r (j := 6) rfl ft_1_31 sh_16 rfl ?_
  refine R_iconst 0 rfl rfl ?_
  refine R_iconst 5 rfl rfl ?_
  refine K_cpyA rfl mt_1_i46 sh_59 sh_23 (by decide) ⟨by decide, by decide, Nat.le_of_ble_eq_true rfl⟩ hI (by decide) rfl fr (by decide) (fun h16 g17 hI fr => ?_)
  refine R_aload_n (k := 1) rfl rfl rfl ?_
  refine R_getf_r (j := 7) rfl ft_1_34 sh_52 rfl ?_
  refine R_iconst 0 rfl rfl ?_
  refine R_aload_n (k := 0) rfl rfl rfl ?_
  refine R_getf_r (j := 7) rfl ft_1_34 sh_16 rfl ?_
  refine R_iconst 0 rfl rfl ?_
  refine R_iconst 5 rfl rfl ?_
  refine K_cpyA rfl mt_1_i46 sh_60 sh_24 (by decide) ⟨by decide, by decide, Nat.le_of_ble_eq_true rfl⟩ hI (by decide) rfl fr (by decide) (fun h18 g19 hI fr => ?_)
  refine R_aload_n (k := 1) rfl rfl rfl ?_
  refine R_getf_r (j := 8) rfl ft_1_37 sh_52 rfl ?_
  refine R_iconst 0 rfl rfl ?_
  refine R_aload_n (k := 0) rfl rfl rfl ?_
  refine R_getf_r (j := 8) rfl ft_1_37 sh_16 rfl ?_
  refine R_iconst 0 rfl rfl ?_
  refine R_bipush 30 rfl rfl ?_
  refine K_cpyA rfl mt_1_i46 sh_61 sh_25 (by decide) ⟨by decide, by decide, Nat.le_of_ble_eq_true rfl⟩ hI (by decide) rfl fr (by decide) (fun h20 g21 hI fr => ?_)
  refine R_aload_n (k := 1) rfl rfl rfl ?_
  refine R_getf_r (j := 9) rfl ft_1_40 sh_52 rfl ?_
  refine R_iconst 0 rfl rfl ?_
  refine R_aload_n (k := 0) rfl rfl rfl ?_
  refine R_getf_r (j := 9) rfl ft_1_40 sh_16 rfl ?_
  refine R_iconst 0 rfl rfl ?_
  refine R_bipush 30 rfl rfl ?_
  refine K_cpyA rfl mt_1_i46 sh_62 sh_26 (by decide) ⟨by decide, by decide, Nat.le_of_ble_eq_true rfl⟩ hI (by decide) rfl fr (by decide) (fun h22 g23 hI fr => ?_)
  refine R_aload_n (k := 1) rfl rfl rfl ?_
  refine R_getf_r (j := 10) rfl ft_1_43 sh_52 rfl ?_
  refine R_iconst 0 rfl rfl ?_
  refine R_aload_n (k := 0) rfl rfl rfl ?_
  refine R_getf_r (j := 10) rfl ft_1_43 sh_16 rfl ?_
  refine R_iconst 0 rfl rfl ?_
  refine R_bipush 30 rfl rfl ?_
  refine K_cpyA rfl mt_1_i46 sh_63 sh_27 (by decide) ⟨by decide, by decide, Nat.le_of_ble_eq_true rfl⟩ hI (by decide) rfl fr (by decide) (fun h24 g25 hI fr => ?_)
  exact R_vret rfl rfl ⟨hI, fr, trivial, rfl⟩
abbrev q_X1_copyFrom_1 (h : PH)  : Option PV → PH → Prop := fun r h' => INV h' ∧ FR [29, 30, 31, 32, 33, 34, 35, 36, 37, 38, 39] h h' ∧ (True) ∧ r = none
set_option maxHeartbeats 4000000 in
set_option maxRecDepth 100000 in
theorem k_X1_copyFrom_1 (h : PH) (hI : INV h)  : CALL d_X1_copyFrom [.inr (.inr (.inl 28)), .inr (.inr (.inl 16))] h (q_X1_copyFrom_1 h) := by
  show RUN d_X1_copyFrom 0 [(0, .inr (.inr (.inl 28))), (1, .inr (.inr (.inl 16)))] [] h _
  have fr : FR [29, 30, 31, 32, 33, 34, 35, 36, 37, 38, 39] h h := FR.rf _ _
  refine R_aload_n (k := 1) rfl rfl rfl ?_
  refine R_getf_r (j := 0) rfl ft_1_9 sh_16 rfl ?_
  refine R_iconst 0 rfl rfl ?_
  refine R_aload_n (k := 0) rfl rfl rfl ?_
  refine R_getf_r (j := 0) rfl ft_1_9 sh_28 rfl ?_
  refine R_iconst 0 rfl rfl ?_
  refine R_bipush 11 rfl rfl ?_
  refine K_cpyC rfl mt_1_i46 sh_17 sh_29 ⟨by decide, by decide, Nat.le_of_ble_eq_true rfl⟩ hI (by decide) (by decide) rfl fr (by decide) (fun h1 g2 hI fr => ?_)
  refine R_aload_n (k := 1) rfl rfl rfl ?_
  refine R_getf_r (j := 1) rfl ft_1_15 sh_16 rfl ?_
  refine R_iconst 0 rfl rfl ?_
  refine R_aload_n (k := 0) rfl rfl rfl ?_
  refine R_getf_r (j := 1) rfl ft_1_15 sh_28 rfl ?_
  refine R_iconst 0 rfl rfl ?_
  refine R_bipush 6 rfl rfl ?_
  refine K_cpyA rfl mt_1_i46 sh_18 sh_30 (by decide) ⟨by decide, by decide, Nat.le_of_ble_eq_true rfl⟩ hI (by decide) rfl fr (by decide) (fun h3 g4 hI fr => ?_)
  refine R_aload_n (k := 1) rfl rfl rfl ?_
  refine R_getf_r (j := 2) rfl ft_1_18 sh_16 rfl ?_
  refine R_iconst 0 rfl rfl ?_
  refine R_aload_n (k := 0) rfl rfl rfl ?_
  refine R_getf_r (j := 2) rfl ft_1_18 sh_28 rfl ?_
  refine R_iconst 0 rfl rfl ?_
  refine R_bipush 6 rfl rfl ?_
  refine K_cpyA rfl mt_1_i46 sh_19 sh_31 (by decide) ⟨by decide, by decide, Nat.le_of_ble_eq_true rfl⟩ hI (by decide) rfl fr (by decide) (fun h5 g6 hI fr => ?_)
  refine R_aload_n (k := 1) rfl rfl rfl ?_
  refine R_getf_r (j := 3) rfl ft_1_21 sh_16 rfl ?_
  refine R_iconst 0 rfl rfl ?_
  refine R_aload_n (k := 0) rfl rfl rfl ?_
  refine R_getf_r (j := 3) rfl ft_1_21 sh_28 rfl ?_
  refine R_iconst 0 rfl rfl ?_
  refine R_bipush 6 rfl rfl ?_
  refine K_cpyA rfl mt_1_i46 sh_20 sh_32 (by decide) ⟨by decide, by decide, Nat.le_of_ble_eq_true rfl⟩ hI (by decide) rfl fr (by decide) (fun h7 g8 hI fr => ?_)
  refine R_aload_n (k := 1) rfl rfl rfl ?_
  refine R_getf_r (j := 4) rfl ft_1_24 sh_16 rfl ?_
  refine R_iconst 0 rfl rfl ?_
  refine R_aload_n (k := 0) rfl rfl rfl ?_
  refine R_getf_r (j := 4) rfl ft_1_24 sh_28 rfl ?_
  refine R_iconst 0 rfl rfl ?_
  refine R_bipush 6 rfl rfl ?_
  have k11 : (0 : Int32).toInt = 0 := by decide
  have k12 : (0 : Int32).toInt = 0 := by decide
  have k13 : (6 : Int32).toInt = 6 := by decide
  refine K_cpyL rfl mt_1_i46 sh_21 sh_33 (by omega) ⟨by decide, by decide, Nat.le_of_ble_eq_true rfl⟩ hI fr (by decide) (fun h9 g10 hI fr => ?_)
  refine R_aload_n (k := 1) rfl rfl rfl ?_
  refine R_getf_r (j := 5) rfl ft_1_28 sh_16 rfl ?_
  refine R_iconst 0 rfl rfl ?_
  refine R_aload_n (k := 0) rfl rfl rfl ?_
  refine R_getf_r (j := 5) rfl ft_1_28 sh_28 rfl ?_
  refine R_iconst 0 rfl rfl ?_
  refine R_iconst 5 rfl rfl ?_
  refine K_cpyA rfl mt_1_i46 sh_22 sh_34 (by decide) ⟨by decide, by decide, Nat.le_of_ble_eq_true rfl⟩ hI (by decide) rfl fr (by decide) (fun h14 g15 hI fr => ?_)
  refine R_aload_n (k := 1) rfl rfl rfl ?_
  refine R_getf_r (j := 6) rfl ft_1_31 sh_16 rfl ?_
  refine R_iconst 0 rfl rfl ?_
  refine R_aload_n (k := 0) rfl rfl rfl ?_
  refine R_getf_r (j := 6) rfl ft_1_31 sh_28 rfl ?_
  refine R_iconst 0 rfl rfl ?_
  refine R_iconst 5 rfl rfl ?_
  refine K_cpyA rfl mt_1_i46 sh_23 sh_35 (by decide) ⟨by decide, by decide, Nat.le_of_ble_eq_true rfl⟩ hI (by decide) rfl fr (by decide) (fun h16 g17 hI fr => ?_)
  refine R_aload_n (k := 1) rfl rfl rfl ?_
  refine R_getf_r (j := 7) rfl ft_1_34 sh_16 rfl ?_
  refine R_iconst 0 rfl rfl ?_
  refine R_aload_n (k := 0) rfl rfl rfl ?_
  refine R_getf_r (j := 7) rfl ft_1_34 sh_28 rfl ?_
  refine R_iconst 0 rfl rfl ?_
  refine R_iconst 5 rfl rfl ?_
  refine K_cpyA rfl mt_1_i46 sh_24 sh_36 (by decide) ⟨by decide, by decide, Nat.le_of_ble_eq_true rfl⟩ hI (by decide) rfl fr (by decide) (fun h18 g19 hI fr => ?_)
  refine R_aload_n (k := 1) rfl rfl rfl ?_
  refine R_getf_r (j := 8) rfl ft_1_37 sh_16 rfl ?_
  refine R_iconst 0 rfl rfl ?_
  refine R_aload_n (k := 0) rfl rfl rfl ?_
  refine R_getf_r (j := 8) rfl ft_1_37 sh_28 rfl ?_
  refine R_iconst 0 rfl rfl ?_
  refine R_bipush 30 rfl rfl ?_
  refine K_cpyA rfl mt_1_i46 sh_25 sh_37 (by decide) ⟨by decide, by decide, Nat.le_of_ble_eq_true rfl⟩ hI (by decide) rfl fr (by decide) (fun h20 g21 hI fr => ?_)
  refine R_aload_n (k := 1) rfl rfl rfl ?_
  refine R_getf_r (j := 9) rfl ft_1_40 sh_16 rfl ?_
  refine R_iconst 0 rfl rfl ?_
  refine R_aload_n (k := 0) rfl rfl rfl ?_
  refine R_getf_r (j := 9) rfl ft_1_40 sh_28 rfl ?_
  refine R_iconst 0 rfl rfl ?_
  refine R_bipush 30 rfl rfl ?_
  refine K_cpyA rfl mt_1_i46 sh_26 sh_38 (by decide) ⟨by decide, by decide, Nat.le_of_ble_eq_true rfl⟩ hI (by decide) rfl fr (by decide) (fun h22 g23 hI fr => ?_)
  refine R_aload_n (k := 1) rfl rfl rfl ?_
  refine R_getf_r (j := 10) rfl ft_1_43 sh_16 rfl ?_
  refine R_iconst 0 rfl rfl ?_
  refine R_aload_n (k := 0) rfl rfl rfl ?_
  refine R_getf_r (j := 10) rfl ft_1_43 sh_28 rfl ?_
  refine R_iconst 0 rfl rfl ?_
  refine R_bipush 30 rfl rfl ?_
  refine K_cpyA rfl mt_1_i46 sh_27 sh_39 (by decide) ⟨by decide, by decide, Nat.le_of_ble_eq_true rfl⟩ hI (by decide) rfl fr (by decide) (fun h24 g25 hI fr => ?_)
  exact R_vret rfl rfl ⟨hI, fr, trivial, rfl⟩
abbrev q_X1_copyFrom_2 (h : PH)  : Option PV → PH → Prop := fun r h' => INV h' ∧ FR [41, 42, 43, 44, 45, 46, 47, 48, 49, 50, 51] h h' ∧ (True) ∧ r = none
set_option maxHeartbeats 4000000 in
set_option maxRecDepth 100000 in
theorem k_X1_copyFrom_2 (h : PH) (hI : INV h)  : CALL d_X1_copyFrom [.inr (.inr (.inl 40)), .inr (.inr (.inl 16))] h (q_X1_copyFrom_2 h) := by
  show RUN d_X1_copyFrom 0 [(0, .inr (.inr (.inl 40))), (1, .inr (.inr (.inl 16)))] [] h _
  have fr : FR [41, 42, 43, 44, 45, 46, 47, 48, 49, 50, 51] h h := FR.rf _ _
  refine R_aload_n (k := 1) rfl rfl rfl ?_
  refine R_getf_r (j := 0) rfl ft_1_9 sh_16 rfl ?_
  refine R_iconst 0 rfl rfl ?_
  refine R_aload_n (k := 0) rfl rfl rfl ?_
  refine R_getf_r (j := 0) rfl ft_1_9 sh_40 rfl ?_
  refine R_iconst 0 rfl rfl ?_
  refine R_bipush 11 rfl rfl ?_
  refine K_cpyC rfl mt_1_i46 sh_17 sh_41 ⟨by decide, by decide, Nat.le_of_ble_eq_true rfl⟩ hI (by decide) (by decide) rfl fr (by decide) (fun h1 g2 hI fr => ?_)
  refine R_aload_n (k := 1) rfl rfl rfl ?_
  refine R_getf_r (j := 1) rfl ft_1_15 sh_16 rfl ?_
  refine R_iconst 0 rfl rfl ?_
  refine R_aload_n (k := 0) rfl rfl rfl ?_
  refine R_getf_r (j := 1) rfl ft_1_15 sh_40 rfl ?_
  refine R_iconst 0 rfl rfl ?_
  refine R_bipush 6 rfl rfl ?_
  refine K_cpyA rfl mt_1_i46 sh_18 sh_42 (by decide) ⟨by decide, by decide, Nat.le_of_ble_eq_true rfl⟩ hI (by decide) rfl fr (by decide) (fun h3 g4 hI fr => ?_)
  refine R_aload_n (k := 1) rfl rfl rfl ?_
  refine R_getf_r (j := 2) rfl ft_1_18 sh_16 rfl ?_
  refine R_iconst 0 rfl rfl ?_
  refine R_aload_n (k := 0) rfl rfl rfl ?_
  refine R_getf_r (j := 2) rfl ft_1_18 sh_40 rfl ?_
  refine R_iconst 0 rfl rfl ?_
  refine R_bipush 6 rfl rfl ?_
  refine K_cpyA rfl mt_1_i46 sh_19 sh_43 (by decide) ⟨by decide, by decide, Nat.le_of_ble_eq_true rfl⟩ hI (by decide) rfl fr (by decide) (fun h5 g6 hI fr => ?_)
  refine R_aload_n (k := 1) rfl rfl rfl ?_
  refine R_getf_r (j := 3) rfl ft_1_21 sh_16 rfl ?_
  refine R_iconst 0 rfl rfl ?_
  refine R_aload_n (k := 0) rfl rfl rfl ?_
  refine R_getf_r (j := 3) rfl ft_1_21 sh_40 rfl ?_
  refine R_iconst 0 rfl rfl ?_
  refine R_bipush 6 rfl rfl ?_
  refine K_cpyA rfl mt_1_i46 sh_20 sh_44 (by decide) ⟨by decide, by decide, Nat.le_of_ble_eq_true rfl⟩ hI (by decide) rfl fr (by decide) (fun h7 g8 hI fr => ?_)
  refine R_aload_n (k := 1) rfl rfl rfl ?_
  refine R_getf_r (j := 4) rfl ft_1_24 sh_16 rfl ?_
  refine R_iconst 0 rfl rfl ?_
  refine R_aload_n (k := 0) rfl rfl rfl ?_
  refine R_getf_r (j := 4) rfl ft_1_24 sh_40 rfl ?_
  refine R_iconst 0 rfl rfl ?_
  refine R_bipush 6 rfl rfl ?_
  have k11 : (0 : Int32).toInt = 0 := by decide
  have k12 : (0 : Int32).toInt = 0 := by decide
  have k13 : (6 : Int32).toInt = 6 := by decide
  refine K_cpyL rfl mt_1_i46 sh_21 sh_45 (by omega) ⟨by decide, by decide, Nat.le_of_ble_eq_true rfl⟩ hI fr (by decide) (fun h9 g10 hI fr => ?_)
  refine R_aload_n (k := 1) rfl rfl rfl ?_
  refine R_getf_r (j := 5) rfl ft_1_28 sh_16 rfl ?_
  refine R_iconst 0 rfl rfl ?_
  refine R_aload_n (k := 0) rfl rfl rfl ?_
  refine R_getf_r (j := 5) rfl ft_1_28 sh_40 rfl ?_
  refine R_iconst 0 rfl rfl ?_
  refine R_iconst 5 rfl rfl ?_
  refine K_cpyA rfl mt_1_i46 sh_22 sh_46 (by decide) ⟨by decide, by decide, Nat.le_of_ble_eq_true rfl⟩ hI (by decide) rfl fr (by decide) (fun h14 g15 hI fr => ?_)
  refine R_aload_n (k := 1) rfl rfl rfl ?_
  refine R_getf_r (j := 6) rfl ft_1_31 sh_16 rfl ?_
  refine R_iconst 0 rfl rfl ?_
  refine R_aload_n (k := 0) rfl rfl rfl ?_
  refine R_getf_r (j := 6) rfl ft_1_31 sh_40 rfl ?_
  refine R_iconst 0 rfl rfl ?_
  refine R_iconst 5 rfl rfl ?_
  refine K_cpyA rfl mt_1_i46 sh_23 sh_47 (by decide) ⟨by decide, by decide, Nat.le_of_ble_eq_true rfl⟩ hI (by decide) rfl fr (by decide) (fun h16 g17 hI fr => ?_)
  refine R_aload_n (k := 1) rfl rfl rfl ?_
  refine R_getf_r (j := 7) rfl ft_1_34 sh_16 rfl ?_
  refine R_iconst 0 rfl rfl ?_
  refine R_aload_n (k := 0) rfl rfl rfl ?_
  refine R_getf_r (j := 7) rfl ft_1_34 sh_40 rfl ?_
  refine R_iconst 0 rfl rfl ?_
  refine R_iconst 5 rfl rfl ?_
  refine K_cpyA rfl mt_1_i46 sh_24 sh_48 (by decide) ⟨by decide, by decide, Nat.le_of_ble_eq_true rfl⟩ hI (by decide) rfl fr (by decide) (fun h18 g19 hI fr => ?_)
  refine R_aload_n (k := 1) rfl rfl rfl ?_
  refine R_getf_r (j := 8) rfl ft_1_37 sh_16 rfl ?_
  refine R_iconst 0 rfl rfl ?_
  refine R_aload_n (k := 0) rfl rfl rfl ?_
  refine R_getf_r (j := 8) rfl ft_1_37 sh_40 rfl ?_
  refine R_iconst 0 rfl rfl ?_
  refine R_bipush 30 rfl rfl ?_
  refine K_cpyA rfl mt_1_i46 sh_25 sh_49 (by decide) ⟨by decide, by decide, Nat.le_of_ble_eq_true rfl⟩ hI (by decide) rfl fr (by decide) (fun h20 g21 hI fr => ?_)
  refine R_aload_n (k := 1) rfl rfl rfl ?_
  refine R_getf_r (j := 9) rfl ft_1_40 sh_16 rfl ?_
  refine R_iconst 0 rfl rfl ?_
  refine R_aload_n (k := 0) rfl rfl rfl ?_
  refine R_getf_r (j := 9) rfl ft_1_40 sh_40 rfl ?_
  refine R_iconst 0 rfl rfl ?_
  refine R_bipush 30 rfl rfl ?_
  refine K_cpyA rfl mt_1_i46 sh_26 sh_50 (by decide) ⟨by decide, by decide, Nat.le_of_ble_eq_true rfl⟩ hI (by decide) rfl fr (by decide) (fun h22 g23 hI fr => ?_)
  refine R_aload_n (k := 1) rfl rfl rfl ?_
  refine R_getf_r (j := 10) rfl ft_1_43 sh_16 rfl ?_
  refine R_iconst 0 rfl rfl ?_
  refine R_aload_n (k := 0) rfl rfl rfl ?_
  refine R_getf_r (j := 10) rfl ft_1_43 sh_40 rfl ?_
  refine R_iconst 0 rfl rfl ?_
  refine R_bipush 30 rfl rfl ?_
  refine K_cpyA rfl mt_1_i46 sh_27 sh_51 (by decide) ⟨by decide, by decide, Nat.le_of_ble_eq_true rfl⟩ hI (by decide) rfl fr (by decide) (fun h24 g25 hI fr => ?_)
  exact R_vret rfl rfl ⟨hI, fr, trivial, rfl⟩
abbrev q_X1_copyFrom_3 (h : PH)  : Option PV → PH → Prop := fun r h' => INV h' ∧ FR [53, 54, 55, 56, 57, 58, 59, 60, 61, 62, 63] h h' ∧ (True) ∧ r = none
set_option maxHeartbeats 4000000 in
set_option maxRecDepth 100000 in
theorem k_X1_copyFrom_3 (h : PH) (hI : INV h)  : CALL d_X1_copyFrom [.inr (.inr (.inl 52)), .inr (.inr (.inl 16))] h (q_X1_copyFrom_3 h) := by
  show RUN d_X1_copyFrom 0 [(0, .inr (.inr (.inl 52))), (1, .inr (.inr (.inl 16)))] [] h _
  have fr : FR [53, 54, 55, 56, 57, 58, 59, 60, 61, 62, 63] h h := FR.rf _ _
  refine R_aload_n (k := 1) rfl rfl rfl ?_
  refine R_getf_r (j := 0) rfl ft_1_9 sh_16 rfl ?_
  refine R_iconst 0 rfl rfl ?_
  refine R_aload_n (k := 0) rfl rfl rfl ?_
  refine R_getf_r (j := 0) rfl ft_1_9 sh_52 rfl ?_
  refine R_iconst 0 rfl rfl ?_
  refine R_bipush 11 rfl rfl ?_
  refine K_cpyC rfl mt_1_i46 sh_17 sh_53 ⟨by decide, by decide, Nat.le_of_ble_eq_true rfl⟩ hI (by decide) (by decide) rfl fr (by decide) (fun h1 g2 hI fr => ?_)
  refine R_aload_n (k := 1) rfl rfl rfl ?_
  refine R_getf_r (j := 1) rfl ft_1_15 sh_16 rfl ?_
  refine R_iconst 0 rfl rfl ?_
  refine R_aload_n (k := 0) rfl rfl rfl ?_
  refine R_getf_r (j := 1) rfl ft_1_15 sh_52 rfl ?_
  refine R_iconst 0 rfl rfl ?_
  refine R_bipush 6 rfl rfl ?_
  refine K_cpyA rfl mt_1_i46 sh_18 sh_54 (by decide) ⟨by decide, by decide, Nat.le_of_ble_eq_true rfl⟩ hI (by decide) rfl fr (by decide) (fun h3 g4 hI fr => ?_)
  refine R_aload_n (k := 1) rfl rfl rfl ?_
  refine R_getf_r (j := 2) rfl ft_1_18 sh_16 rfl ?_
  refine R_iconst 0 rfl rfl ?_
  refine R_aload_n (k := 0) rfl rfl rfl ?_
  refine R_getf_r (j := 2) rfl ft_1_18 sh_52 rfl ?_
  refine R_iconst 0 rfl rfl ?_
  refine R_bipush 6 rfl rfl ?_
  refine K_cpyA rfl mt_1_i46 sh_19 sh_55 (by decide) ⟨by decide, by decide, Nat.le_of_ble_eq_true rfl⟩ hI (by decide) rfl fr (by decide) (fun h5 g6 hI fr => ?_)
  refine R_aload_n (k := 1) rfl rfl rfl ?_
  refine R_getf_r (j := 3) rfl ft_1_21 sh_16 rfl ?_
  refine R_iconst 0 rfl rfl ?_
  refine R_aload_n (k := 0) rfl rfl rfl ?_
  refine R_getf_r (j := 3) rfl ft_1_21 sh_52 rfl ?_
  refine R_iconst 0 rfl rfl ?_
  refine R_bipush 6 rfl rfl ?_
  refine K_cpyA rfl mt_1_i46 sh_20 sh_56 (by decide) ⟨by decide, by decide, Nat.le_of_ble_eq_true rfl⟩ hI (by decide) rfl fr (by decide) (fun h7 g8 hI fr => ?_)
  refine R_aload_n (k := 1) rfl rfl rfl ?_
  refine R_getf_r (j := 4) rfl ft_1_24 sh_16 rfl ?_
  refine R_iconst 0 rfl rfl ?_
  refine R_aload_n (k := 0) rfl rfl rfl ?_
  refine R_getf_r (j := 4) rfl ft_1_24 sh_52 rfl ?_
  refine R_iconst 0 rfl rfl ?_
  refine R_bipush 6 rfl rfl ?_
  have k11 : (0 : Int32).toInt = 0 := by decide
  have k12 : (0 : Int32).toInt = 0 := by decide
  have k13 : (6 : Int32).toInt = 6 := by decide
  refine K_cpyL rfl mt_1_i46 sh_21 sh_57 (by omega) ⟨by decide, by decide, Nat.le_of_ble_eq_true rfl⟩ hI fr (by decide) (fun h9 g10 hI fr => ?_)
  refine R_aload_n (k := 1) rfl rfl rfl ?_
  refine R_getf_r (j := 5) rfl ft_1_28 sh_16 rfl ?_
  refine R_iconst 0 rfl rfl ?_
  refine R_aload_n (k := 0) rfl rfl rfl ?_
  refine R_getf_r (j := 5) rfl ft_1_28 sh_52 rfl ?_
  refine R_iconst 0 rfl rfl ?_
  refine R_iconst 5 rfl rfl ?_
  refine K_cpyA rfl mt_1_i46 sh_22 sh_58 (by decide) ⟨by decide, by decide, Nat.le_of_ble_eq_true rfl⟩ hI (by decide) rfl fr (by decide) (fun h14 g15 hI fr => ?_)
  refine R_aload_n (k := 1) rfl rfl rfl ?_
  refine R_getf_r (j := 6) rfl ft_1_31 sh_16 rfl ?_
  refine R_iconst 0 rfl rfl ?_
  refine R_aload_n (k := 0) rfl rfl rfl ?_
  refine R_getf_r (j := 6) rfl ft_1_31 sh_52 rfl ?_
  refine R_iconst 0 rfl rfl ?_
  refine R_iconst 5 rfl rfl ?_
  refine K_cpyA rfl mt_1_i46 sh_23 sh_59 (by decide) ⟨by decide, by decide, Nat.le_of_ble_eq_true rfl⟩ hI (by decide) rfl fr (by decide) (fun h16 g17 hI fr => ?_)
  refine R_aload_n (k := 1) rfl rfl rfl ?_
  refine R_getf_r (j := 7) rfl ft_1_34 sh_16 rfl ?_
  refine R_iconst 0 rfl rfl ?_
  refine R_aload_n (k := 0) rfl rfl rfl ?_
  refine R_getf_r (j := 7) rfl ft_1_34 sh_52 rfl ?_
  refine R_iconst 0 rfl rfl ?_
  refine R_iconst 5 rfl rfl ?_
  refine K_cpyA rfl mt_1_i46 sh_24 sh_60 (by decide) ⟨by decide, by decide, Nat.le_of_ble_eq_true rfl⟩ hI (by decide) rfl fr (by decide) (fun h18 g19 hI fr => ?_)
  refine R_aload_n (k := 1) rfl rfl rfl ?_
  refine R_getf_r (j := 8) rfl ft_1_37 sh_16 rfl ?_
  refine R_iconst 0 rfl rfl ?_
  refine R_aload_n (k := 0) rfl rfl rfl ?_
  refine R_getf_r (j := 8) rfl ft_1_37 sh_52 rfl ?_
  refine R_iconst 0 rfl rfl ?_
  refine R_bipush 30 rfl rfl ?_
  refine K_cpyA rfl mt_1_i46 sh_25 sh_61 (by decide) ⟨by decide, by decide, Nat.le_of_ble_eq_true rfl⟩ hI (by decide) rfl fr (by decide) (fun h20 g21 hI fr => ?_)
  refine R_aload_n (k := 1) rfl rfl rfl ?_
  refine R_getf_r (j := 9) rfl ft_1_40 sh_16 rfl ?_
  refine R_iconst 0 rfl rfl ?_
  refine R_aload_n (k := 0) rfl rfl rfl ?_
  refine R_getf_r (j := 9) rfl ft_1_40 sh_52 rfl ?_
  refine R_iconst 0 rfl rfl ?_
  refine R_bipush 30 rfl rfl ?_
  refine K_cpyA rfl mt_1_i46 sh_26 sh_62 (by decide) ⟨by decide, by decide, Nat.le_of_ble_eq_true rfl⟩ hI (by decide) rfl fr (by decide) (fun h22 g23 hI fr => ?_)
  refine R_aload_n (k := 1) rfl rfl rfl ?_
  refine R_getf_r (j := 10) rfl ft_1_43 sh_16 rfl ?_
  refine R_iconst 0 rfl rfl ?_
  refine R_aload_n (k := 0) rfl rfl rfl ?_
  refine R_getf_r (j := 10) rfl ft_1_43 sh_52 rfl ?_
  refine R_iconst 0 rfl rfl ?_
  refine R_bipush 30 rfl rfl ?_
  refine K_cpyA rfl mt_1_i46 sh_27 sh_63 (by decide) ⟨by decide, by decide, Nat.le_of_ble_eq_true rfl⟩ hI (by decide) rfl fr (by decide) (fun h24 g25 hI fr => ?_)
  exact R_vret rfl rfl ⟨hI, fr, trivial, rfl⟩
abbrev q_X8_forget (h : PH)  : Option PV → PH → Prop := fun r h' => INV h' ∧ FR [0] h h' ∧ (True) ∧ r = none
set_option maxHeartbeats 4000000 in
set_option maxRecDepth 100000 in
theorem k_X8_forget (h : PH) (hI : INV h)  : CALL d_X8_forget [.inr (.inr (.inl 0))] h (q_X8_forget h) := by
  show RUN d_X8_forget 0 [(0, .inr (.inr (.inl 0)))] [] h _
  have fr : FR [0] h h := FR.rf _ _
  refine R_aload_n (k := 0) rfl rfl rfl ?_
  refine R_iconst 0 rfl rfl ?_
  refine K_putz (j := 11) rfl ft_8_74 sh_0 rfl (by decide) hI (by decide) rfl fr (by decide) (fun h1 g2 hI fr => ?_)
  have s3 : (h1.1 0 11).toInt = 0 := by rw [g2, wI_is]; rfl
  refine R_aload_n (k := 0) rfl rfl rfl ?_
  refine R_iconst 0 rfl rfl ?_
  refine K_putz (j := 13) rfl ft_8_81 sh_0 rfl (by decide) hI (by decide) rfl fr (by decide) (fun h4 g5 hI fr => ?_)
  have s6 : (h4.1 0 11).toInt = (h1.1 0 11).toInt := by rw [g5, wI_at (by decide)]
  have s7 : (h4.1 0 13).toInt = 0 := by rw [g5, wI_is]; rfl
  exact R_vret rfl rfl ⟨hI, fr, trivial, rfl⟩
abbrev q_X8_forgetAll (h : PH)  : Option PV → PH → Prop := fun r h' => INV h' ∧ FR [0] h h' ∧ (True) ∧ r = none
set_option maxHeartbeats 4000000 in
set_option maxRecDepth 100000 in
theorem k_X8_forgetAll (h : PH) (hI : INV h)  : CALL d_X8_forgetAll [.inr (.inr (.inl 0))] h (q_X8_forgetAll h) := by
  show RUN d_X8_forgetAll 0 [(0, .inr (.inr (.inl 0)))] [] h _
  have fr : FR [0] h h := FR.rf _ _
  refine R_aload_n (k := 0) rfl rfl rfl ?_
  refine R_callV (v := .inr (.inr (.inl 0))) (As := []) (rest := []) rfl mt_8_i377 pp_X8_forget (by decide) rfl rfl rfl (Nat.le_of_ble_eq_true rfl) (Nat.le_of_ble_eq_true rfl) ((k_X8_forget h hI).mono (fun r1 h2 p3 => ?_))
  obtain ⟨hJ, fj, -, rfl⟩ := p3
  have f4 := fj
  have fr := fr.trans fj (by decide)
  have hI := hJ
  show RUN d_X8_forgetAll 4 [(0, .inr (.inr (.inl 0)))] [] h2 _
  refine R_aload_n (k := 0) rfl rfl rfl ?_
  refine R_iconst 0 rfl rfl ?_
  refine K_putz (j := 12) rfl ft_8_78 sh_0 rfl (by decide) hI (by decide) rfl fr (by decide) (fun h5 g6 hI fr => ?_)
  have s7 : (h5.1 0 12).toInt = 0 := by rw [g6, wI_is]; rfl
  exact R_vret rfl rfl ⟨hI, fr, trivial, rfl⟩
abbrev q_X8_brigade (h : PH)  : Option PV → PH → Prop := fun r h' => INV h' ∧ FR [0, 1, 2, 5, 6, 7, 8, 9, 10, 11, 12, 17, 18, 19, 20, 21, 22, 23, 24, 25, 26, 27] h h' ∧ (True) ∧ ∃ z : Int32, r = some (.inl z) ∧ ((True))
set_option maxHeartbeats 4000000 in
set_option maxRecDepth 100000 in
theorem k_X8_brigade (h : PH) (hI : INV h)  : CALL d_X8_brigade [.inr (.inr (.inl 0))] h (q_X8_brigade h) := by
  show RUN d_X8_brigade 0 [(0, .inr (.inr (.inl 0)))] [] h _
  have fr : FR [0, 1, 2, 5, 6, 7, 8, 9, 10, 11, 12, 17, 18, 19, 20, 21, 22, 23, 24, 25, 26, 27] h h := FR.rf _ _
  refine R_aload_n (k := 0) rfl rfl rfl ?_
  refine R_getf_r (j := 0) rfl ft_8_10 sh_0 rfl ?_
  refine R_aload_n (k := 0) rfl rfl rfl ?_
  refine R_getf_r (j := 2) rfl ft_8_24 sh_0 rfl ?_
  refine R_callV (v := .inr (.inr (.inl 1))) (As := [.inr (.inr (.inl 4))]) (rest := []) rfl mt_8_i98 pp_X4_readInto (by decide) rfl rfl rfl (Nat.le_of_ble_eq_true rfl) (Nat.le_of_ble_eq_true rfl) ((k_X4_readInto h hI).mono (fun r1 h2 p3 => ?_))
  obtain ⟨hJ, fj, -, x5, rfl, (q6 | q6), zq4, -⟩ := p3
  · have f7 := fj
    have fr := fr.trans fj (by decide)
    have hI := hJ
    have b8 : (0 : Int) ≤ (h2.1 1 1).toInt ∧ (h2.1 1 1).toInt ≤ 3 := hI.1 1 1
    show RUN d_X8_brigade 11 [(0, .inr (.inr (.inl 0)))] [.inl x5] h2 _
    refine N_if_ne (a := x5.toInt) 17 rfl rfl rfl (fun c9 => ?_) (fun c9 => ?_)
    · exfalso; omega
    · refine R_bipush (-4) rfl rfl ?_
      exact R_iret rfl rfl rfl ⟨hI, fr, trivial, _, rfl, trivial⟩
  · have f10 := fj
    have fr := fr.trans fj (by decide)
    have hI := hJ
    have b11 : (0 : Int) ≤ (h2.1 1 1).toInt ∧ (h2.1 1 1).toInt ≤ 3 := hI.1 1 1
    show RUN d_X8_brigade 11 [(0, .inr (.inr (.inl 0)))] [.inl x5] h2 _
    refine N_if_ne (a := x5.toInt) 17 rfl rfl rfl (fun c12 => ?_) (fun c12 => ?_)
    · refine R_aload_n (k := 0) rfl rfl rfl ?_
      refine R_getf_r (j := 3) rfl ft_8_28 sh_0 rfl ?_
      refine R_aload_n (k := 0) rfl rfl rfl ?_
      refine R_getf_r (j := 2) rfl ft_8_24 sh_0 rfl ?_
      refine R_callV (v := .inr (.inr (.inl 16))) (As := [.inr (.inr (.inl 4))]) (rest := []) rfl mt_8_i102 pp_X1_copyFrom (by decide) rfl rfl rfl (Nat.le_of_ble_eq_true rfl) (Nat.le_of_ble_eq_true rfl) ((k_X1_copyFrom h2 hI (by omega) (by omega)).mono (fun r13 h14 p15 => ?_))
      obtain ⟨hJ, fj, -, rfl⟩ := p15
      have f16 := fj
      have fr := fr.trans fj (by decide)
      have hI := hJ
      have s17 : (h14.1 1 1).toInt = (h2.1 1 1).toInt := by rw [(f16 1 (by decide)).1]
      have s18 : (h14.1 5 0).toInt = (h2.1 5 0).toInt := by rw [(f16 5 (by decide)).1]
      have s19 : (h14.1 5 10).toInt = (h2.1 5 10).toInt := by rw [(f16 5 (by decide)).1]
      show RUN d_X8_brigade 28 [(0, .inr (.inr (.inl 0)))] [] h14 _
      refine R_aload_n (k := 0) rfl rfl rfl ?_
      refine R_getf_r (j := 1) rfl ft_8_20 sh_0 rfl ?_
      refine R_iconst 0 rfl rfl ?_
      refine K_putf (j := 1) (lo := 0) (hi' := 500) rfl ft_8_94 sh_2 rfl hI (by decide) rfl (by decide) fr (by decide) (fun h20 g21 hI fr => ?_)
      have s22 : (h20.1 1 1).toInt = (h14.1 1 1).toInt := by rw [g21, wI_ne _ _ _ (by decide)]
      have s23 : (h20.1 5 0).toInt = (h14.1 5 0).toInt := by rw [g21, wI_ne _ _ _ (by decide)]
      have s24 : (h20.1 5 10).toInt = (h14.1 5 10).toInt := by rw [g21, wI_ne _ _ _ (by decide)]
      have s25 : (h20.1 2 1).toInt = 0 := by rw [g21, wI_is]; rfl
      refine R_aload_n (k := 0) rfl rfl rfl ?_
      refine R_callV (v := .inr (.inr (.inl 0))) (As := []) (rest := []) rfl mt_8_i106 pp_X8_forgetAll (by decide) rfl rfl rfl (Nat.le_of_ble_eq_true rfl) (Nat.le_of_ble_eq_true rfl) ((k_X8_forgetAll h20 hI).mono (fun r26 h27 p28 => ?_))
      obtain ⟨hJ, fj, -, rfl⟩ := p28
      have f29 := fj
      have fr := fr.trans fj (by decide)
      have hI := hJ
      have s30 : (h27.1 1 1).toInt = (h20.1 1 1).toInt := by rw [(f29 1 (by decide)).1]
      have s31 : (h27.1 5 0).toInt = (h20.1 5 0).toInt := by rw [(f29 5 (by decide)).1]
      have s32 : (h27.1 5 10).toInt = (h20.1 5 10).toInt := by rw [(f29 5 (by decide)).1]
      have s33 : (h27.1 2 1).toInt = (h20.1 2 1).toInt := by rw [(f29 2 (by decide)).1]
      show RUN d_X8_brigade 40 [(0, .inr (.inr (.inl 0)))] [] h27 _
      refine R_aload_n (k := 0) rfl rfl rfl ?_
      refine R_getf_r (j := 3) rfl ft_8_28 sh_0 rfl ?_
      refine R_getf_r (j := 0) rfl ft_8_109 sh_16 rfl ?_
      refine R_bipush 10 rfl rfl ?_
      refine R_iald rfl sh_17 (by decide) ?_
      have b34 : (0 : Int) ≤ (h27.1 17 0).toInt ∧ (h27.1 17 0).toInt ≤ 60 := hI.1 17 0
      have e35 : 0 < (h27.1 17 10).toInt → 1 ≤ (h27.1 17 0).toInt := hI.2.1
      show RUN d_X8_brigade 50 [(0, .inr (.inr (.inl 0)))] [.inl (h27.1 17 10)] h27 _
      exact R_iret rfl rfl rfl ⟨hI, fr, trivial, _, rfl, trivial⟩
    · exfalso; omega
abbrev q_X9_see (h : PH) (a0 : Int32) : Option PV → PH → Prop := fun r h' => h = h' ∧ ∃ z : Int32, r = some (.inl z) ∧ ((z.toInt = (-1) ∧ (h.1 96 7).toInt ≤ a0.toInt + 0) ∨ (0 ≤ z.toInt ∧ z.toInt ≤ 255 ∧ 0 ≤ a0.toInt ∧ a0.toInt ≤ 499 ∧ 1 ≤ (h.1 96 7).toInt ∧ (h.1 96 7).toInt ≤ 500 ∧ a0.toInt ≤ (h.1 96 7).toInt + (-1)))
set_option maxHeartbeats 4000000 in
set_option maxRecDepth 100000 in
theorem k_X9_see (h : PH) (hI : INV h) (a0 : Int32) (h0a : 0 ≤ a0.toInt ∧ a0.toInt ≤ 500) : CALL d_X9_see [.inr (.inr (.inl 96)), .inl a0] h (q_X9_see h a0) := by
  show RUN d_X9_see 0 [(0, .inr (.inr (.inl 96))), (1, .inl a0)] [] h _
  refine R_iload_n (k := 1) rfl rfl rfl ?_
  refine R_aload_n (k := 0) rfl rfl rfl ?_
  refine R_getf_i (j := 7) rfl ft_9_139 sh_96 rfl ?_
  have b1 : (0 : Int) ≤ (h.1 96 7).toInt ∧ (h.1 96 7).toInt ≤ 500 := hI.1 96 7
  refine N_icmp_ge (a := a0.toInt) (b := (h.1 96 7).toInt) 21 rfl rfl rfl rfl (fun c2 => ?_) (fun c2 => ?_)
  · refine R_iconst (-1) rfl rfl ?_
    exact R_iret rfl rfl rfl ⟨rfl, _, rfl, by rw [show ((-1) : Int32).toInt = (-1) from rfl] <;> omega⟩
  · refine R_aload_n (k := 0) rfl rfl rfl ?_
    refine R_getf_r (j := 4) rfl ft_9_20 sh_96 rfl ?_
    refine R_iload_n (k := 1) rfl rfl rfl ?_
    refine R_bald rfl sh_100 ⟨by omega, by omega⟩ ?_
    refine N_any (fun x3 => ?_)
    refine R_sipush 255 rfl rfl ?_
    refine N_iand (b := 255) rfl (by decide) (by omega) (fun x4 q5 => ?_)
    refine R_goto 22 rfl rfl ?_
    exact R_iret rfl rfl rfl ⟨rfl, _, rfl, by omega⟩
abbrev q_X9_advance (h : PH)  : Option PV → PH → Prop := fun r h' => INV h' ∧ FR [96] h h' ∧ ((h'.1 96 7).toInt = (h.1 96 7).toInt ∧ (h'.1 96 5).toInt = (h.1 96 5).toInt ∧ (h'.1 96 12).toInt = (h.1 96 12).toInt ∧ (h'.1 96 13).toInt = (h.1 96 13).toInt ∧ True) ∧ r = none
set_option maxHeartbeats 4000000 in
set_option maxRecDepth 100000 in
theorem k_X9_advance (h : PH) (hI : INV h)  : CALL d_X9_advance [.inr (.inr (.inl 96))] h (q_X9_advance h) := by
  show RUN d_X9_advance 0 [(0, .inr (.inr (.inl 96)))] [] h _
  have fr : FR [96] h h := FR.rf _ _
  have b1 : (0 : Int) ≤ (h.1 96 7).toInt ∧ (h.1 96 7).toInt ≤ 500 := hI.1 96 7
  have b2 : (0 : Int) ≤ (h.1 96 5).toInt ∧ (h.1 96 5).toInt ≤ 500 := hI.1 96 5
  have b3 : (0 : Int) ≤ (h.1 96 8).toInt ∧ (h.1 96 8).toInt ≤ 500 := hI.1 96 8
  have b4 : (0 : Int) ≤ (h.1 96 12).toInt ∧ (h.1 96 12).toInt ≤ 3 := hI.1 96 12
  have lp6 : ∀ (n5 : Nat) (h7 : PH), INV h7 → FR [96] h h7 → FR [96] h h7 → (h7.1 96 7).toInt = (h.1 96 7).toInt → (h7.1 96 5).toInt = (h.1 96 5).toInt → (h7.1 96 12).toInt = (h.1 96 12).toInt → (h7.1 96 13).toInt = (h.1 96 13).toInt → 0 ≤ (h7.1 96 8).toInt ∧ (h7.1 96 8).toInt ≤ 500 → (500 - (h7.1 96 8).toInt).toNat < n5 → RUN d_X9_advance 0 [(0, .inr (.inr (.inl 96)))] [] h7 (q_X9_advance h) := by
    intro n5
    induction n5 with
    | zero => intro h7 m10 m11 m12 m13 m14 m15 m16 m17 hz; exact absurd hz (Nat.not_lt_zero _)
    | succ n5 ih9 =>
      intro h7 hI fr fl8 m13 m14 m15 m16 m17 hz
      refine R_aload_n (k := 0) rfl rfl rfl ?_
      refine R_aload_n (k := 0) rfl rfl rfl ?_
      refine R_getf_i (j := 8) rfl ft_9_142 sh_96 rfl ?_
      refine R_callV (v := .inr (.inr (.inl 96))) (As := [.inl (h7.1 96 8)]) (rest := []) rfl mt_9_i145 pp_X9_see (by decide) rfl rfl rfl (Nat.le_of_ble_eq_true rfl) (Nat.le_of_ble_eq_true rfl) ((k_X9_see h7 hI (h7.1 96 8) (by omega)).mono (fun r18 h19 p20 => ?_))
      obtain ⟨rfl, x21, rfl, q22 | q22⟩ := p20
      · show RUN d_X9_advance 8 [(0, .inr (.inr (.inl 96)))] [.inl x21] h7 _
        refine R_bipush 32 rfl rfl ?_
        refine N_icmp_eq (a := x21.toInt) (b := 32) 26 rfl rfl rfl (by decide) (fun c23 => ?_) (fun c23 => ?_)
        · exfalso; omega
        · refine R_aload_n (k := 0) rfl rfl rfl ?_
          refine R_aload_n (k := 0) rfl rfl rfl ?_
          refine R_getf_i (j := 8) rfl ft_9_142 sh_96 rfl ?_
          refine R_callV (v := .inr (.inr (.inl 96))) (As := [.inl (h7.1 96 8)]) (rest := []) rfl mt_9_i145 pp_X9_see (by decide) rfl rfl rfl (Nat.le_of_ble_eq_true rfl) (Nat.le_of_ble_eq_true rfl) ((k_X9_see h7 hI (h7.1 96 8) (by omega)).mono (fun r24 h25 p26 => ?_))
          obtain ⟨rfl, x27, rfl, q28 | q28⟩ := p26
          · show RUN d_X9_advance 21 [(0, .inr (.inr (.inl 96)))] [.inl x27] h7 _
            refine R_bipush 10 rfl rfl ?_
            refine N_icmp_ne (a := x27.toInt) (b := 10) 39 rfl rfl rfl (by decide) (fun c29 => ?_) (fun c29 => ?_)
            · refine R_aload_n (k := 0) rfl rfl rfl ?_
              refine R_aload_n (k := 0) rfl rfl rfl ?_
              refine R_getf_i (j := 8) rfl ft_9_142 sh_96 rfl ?_
              refine K_putf (j := 9) (lo := 0) (hi' := 500) rfl ft_9_149 sh_96 rfl hI (by decide) rfl (by omega) fr (by decide) (fun h30 g31 hI fr => ?_)
              have fl8 : FR [96] h h30 := by rw [g31]; exact FR_wI _ _ fl8 (by decide)
              have s32 : (h30.1 96 7).toInt = (h7.1 96 7).toInt := by rw [g31, wI_at (by decide)]
              have s33 : (h30.1 96 5).toInt = (h7.1 96 5).toInt := by rw [g31, wI_at (by decide)]
              have s34 : (h30.1 96 8).toInt = (h7.1 96 8).toInt := by rw [g31, wI_at (by decide)]
              have s35 : (h30.1 96 12).toInt = (h7.1 96 12).toInt := by rw [g31, wI_at (by decide)]
              have s36 : (h30.1 96 13).toInt = (h7.1 96 13).toInt := by rw [g31, wI_at (by decide)]
              have s37 : (h30.1 96 9).toInt = (h7.1 96 8).toInt := by rw [g31, wI_is]
              refine R_aload_n (k := 0) rfl rfl rfl ?_
              refine R_aload_n (k := 0) rfl rfl rfl ?_
              refine R_getf_i (j := 8) rfl ft_9_142 sh_96 rfl ?_
              refine R_callV (v := .inr (.inr (.inl 96))) (As := [.inl (h30.1 96 8)]) (rest := []) rfl mt_9_i145 pp_X9_see (by decide) rfl rfl rfl (Nat.le_of_ble_eq_true rfl) (Nat.le_of_ble_eq_true rfl) ((k_X9_see h30 hI (h30.1 96 8) (by omega)).mono (fun r38 h39 p40 => ?_))
              obtain ⟨rfl, x41, rfl, q42 | q42⟩ := p40
              · show RUN d_X9_advance 55 [(0, .inr (.inr (.inl 96)))] [.inl x41] h30 _
                refine R_istore_n (k := 1) rfl [(1, .inl x41), (0, .inr (.inr (.inl 96)))] rfl rfl (by decide) ?_
                refine R_iload_n (k := 1) rfl rfl rfl ?_
                refine R_iconst (-1) rfl rfl ?_
                refine N_icmp_ne (a := x41.toInt) (b := (-1)) 69 rfl rfl rfl (by decide) (fun c43 => ?_) (fun c43 => ?_)
                · exfalso; omega
                · refine R_aload_n (k := 0) rfl rfl rfl ?_
                  refine R_iconst 0 rfl rfl ?_
                  refine K_putf (j := 10) (lo := (-2147483648)) (hi' := 2147483647) rfl ft_9_152 sh_96 rfl hI (by decide) rfl (by decide) fr (by decide) (fun h44 g45 hI fr => ?_)
                  have fl8 : FR [96] h h44 := by rw [g45]; exact FR_wI _ _ fl8 (by decide)
                  have s46 : (h44.1 96 7).toInt = (h30.1 96 7).toInt := by rw [g45, wI_at (by decide)]
                  have s47 : (h44.1 96 5).toInt = (h30.1 96 5).toInt := by rw [g45, wI_at (by decide)]
                  have s48 : (h44.1 96 8).toInt = (h30.1 96 8).toInt := by rw [g45, wI_at (by decide)]
                  have s49 : (h44.1 96 12).toInt = (h30.1 96 12).toInt := by rw [g45, wI_at (by decide)]
                  have s50 : (h44.1 96 13).toInt = (h30.1 96 13).toInt := by rw [g45, wI_at (by decide)]
                  have s51 : (h44.1 96 9).toInt = (h30.1 96 9).toInt := by rw [g45, wI_at (by decide)]
                  have s52 : (h44.1 96 10).toInt = 0 := by rw [g45, wI_is]; rfl
                  refine R_goto 239 rfl rfl ?_
                  exact R_vret rfl rfl ⟨hI, fr, ⟨by omega, by omega, by omega, by omega, trivial⟩, rfl⟩
              · show RUN d_X9_advance 55 [(0, .inr (.inr (.inl 96)))] [.inl x41] h30 _
                refine R_istore_n (k := 1) rfl [(1, .inl x41), (0, .inr (.inr (.inl 96)))] rfl rfl (by decide) ?_
                refine R_iload_n (k := 1) rfl rfl rfl ?_
                refine R_iconst (-1) rfl rfl ?_
                refine N_icmp_ne (a := x41.toInt) (b := (-1)) 69 rfl rfl rfl (by decide) (fun c53 => ?_) (fun c53 => ?_)
                · refine R_iload_n (k := 1) rfl rfl rfl ?_
                  refine N_i2l rfl (fun w54 q55 => ?_)
                  refine R_ldc2 (x := 97) rfl kt_9_155 ?_
                  refine R_ldc2 (x := 122) rfl kt_9_157 ?_
                  have k56 : (97 : Int64).toInt = 97 := by decide
                  have k57 : (122 : Int64).toInt = 122 := by decide
                  refine R_callS (As := [.inr (.inl w54), .inr (.inl 97), .inr (.inl 122)]) (rest := []) rfl mt_9_i125 (by decide) pp_X9_in (by decide) rfl rfl (Nat.le_of_ble_eq_true rfl) (Nat.le_of_ble_eq_true rfl) ((k_X9_in h30 hI w54 (97 : Int64) (122 : Int64)).mono (fun r58 h59 p60 => ?_))
                  obtain ⟨rfl, x61, rfl, q62 | q62 | q62⟩ := p60
                  · show RUN d_X9_advance 80 [(1, .inl x41), (0, .inr (.inr (.inl 96)))] [.inl x61] h30 _
                    refine N_if_eq (a := x61.toInt) 125 rfl rfl rfl (fun c63 => ?_) (fun c63 => ?_)
                    · refine R_iload_n (k := 1) rfl rfl rfl ?_
                      refine N_i2l rfl (fun w64 q65 => ?_)
                      refine R_ldc2 (x := 48) rfl kt_9_159 ?_
                      refine R_ldc2 (x := 57) rfl kt_9_161 ?_
                      have k66 : (48 : Int64).toInt = 48 := by decide
                      have k67 : (57 : Int64).toInt = 57 := by decide
                      refine R_callS (As := [.inr (.inl w64), .inr (.inl 48), .inr (.inl 57)]) (rest := []) rfl mt_9_i125 (by decide) pp_X9_in (by decide) rfl rfl (Nat.le_of_ble_eq_true rfl) (Nat.le_of_ble_eq_true rfl) ((k_X9_in h30 hI w64 (48 : Int64) (57 : Int64)).mono (fun r68 h69 p70 => ?_))
                      obtain ⟨rfl, x71, rfl, q72 | q72 | q72⟩ := p70
                      · show RUN d_X9_advance 136 [(1, .inl x41), (0, .inr (.inr (.inl 96)))] [.inl x71] h30 _
                        refine N_if_eq (a := x71.toInt) 214 rfl rfl rfl (fun c73 => ?_) (fun c73 => ?_)
                        · refine R_aload_n (k := 0) rfl rfl rfl ?_
                          refine R_iload_n (k := 1) rfl rfl rfl ?_
                          refine R_bipush 59 rfl rfl ?_
                          refine N_icmp_ne (a := x41.toInt) (b := 59) 225 rfl rfl rfl (by decide) (fun c74 => ?_) (fun c74 => ?_)
                          · refine R_iconst 4 rfl rfl ?_
                            refine K_putf (j := 10) (lo := (-2147483648)) (hi' := 2147483647) rfl ft_9_152 sh_96 rfl hI (by decide) rfl (by decide) fr (by decide) (fun h75 g76 hI fr => ?_)
                            have fl8 : FR [96] h h75 := by rw [g76]; exact FR_wI _ _ fl8 (by decide)
                            have s77 : (h75.1 96 7).toInt = (h30.1 96 7).toInt := by rw [g76, wI_at (by decide)]
                            have s78 : (h75.1 96 5).toInt = (h30.1 96 5).toInt := by rw [g76, wI_at (by decide)]
                            have s79 : (h75.1 96 8).toInt = (h30.1 96 8).toInt := by rw [g76, wI_at (by decide)]
                            have s80 : (h75.1 96 12).toInt = (h30.1 96 12).toInt := by rw [g76, wI_at (by decide)]
                            have s81 : (h75.1 96 13).toInt = (h30.1 96 13).toInt := by rw [g76, wI_at (by decide)]
                            have s82 : (h75.1 96 9).toInt = (h30.1 96 9).toInt := by rw [g76, wI_at (by decide)]
                            have s83 : (h75.1 96 10).toInt = 4 := by rw [g76, wI_is]; rfl
                            refine R_aload_n (k := 0) rfl rfl rfl ?_
                            refine R_dup_r rfl ?_
                            refine R_getf_i (j := 8) rfl ft_9_142 sh_96 rfl ?_
                            refine R_iconst 1 rfl rfl ?_
                            refine N_iadd (a := (h75.1 96 8).toInt) (b := 1) rfl rfl (by decide) (by omega) (fun x84 q85 => ?_)
                            refine K_putf (j := 8) (lo := 0) (hi' := 500) rfl ft_9_142 sh_96 rfl hI (by decide) rfl (by omega) fr (by decide) (fun h86 g87 hI fr => ?_)
                            have fl8 : FR [96] h h86 := by rw [g87]; exact FR_wI _ _ fl8 (by decide)
                            have s88 : (h86.1 96 7).toInt = (h75.1 96 7).toInt := by rw [g87, wI_at (by decide)]
                            have s89 : (h86.1 96 5).toInt = (h75.1 96 5).toInt := by rw [g87, wI_at (by decide)]
                            have s90 : (h86.1 96 12).toInt = (h75.1 96 12).toInt := by rw [g87, wI_at (by decide)]
                            have s91 : (h86.1 96 13).toInt = (h75.1 96 13).toInt := by rw [g87, wI_at (by decide)]
                            have s92 : (h86.1 96 9).toInt = (h75.1 96 9).toInt := by rw [g87, wI_at (by decide)]
                            have s93 : (h86.1 96 10).toInt = (h75.1 96 10).toInt := by rw [g87, wI_at (by decide)]
                            have s94 : (h86.1 96 8).toInt = x84.toInt := by rw [g87, wI_is]
                            exact R_vret rfl rfl ⟨hI, fr, ⟨by omega, by omega, by omega, by omega, trivial⟩, rfl⟩
                          · exfalso; omega
                        · exfalso; omega
                      · show RUN d_X9_advance 136 [(1, .inl x41), (0, .inr (.inr (.inl 96)))] [.inl x71] h30 _
                        refine N_if_eq (a := x71.toInt) 214 rfl rfl rfl (fun c95 => ?_) (fun c95 => ?_)
                        · refine R_aload_n (k := 0) rfl rfl rfl ?_
                          refine R_iload_n (k := 1) rfl rfl rfl ?_
                          refine R_bipush 59 rfl rfl ?_
                          refine N_icmp_ne (a := x41.toInt) (b := 59) 225 rfl rfl rfl (by decide) (fun c96 => ?_) (fun c96 => ?_)
                          · refine R_iconst 4 rfl rfl ?_
                            refine K_putf (j := 10) (lo := (-2147483648)) (hi' := 2147483647) rfl ft_9_152 sh_96 rfl hI (by decide) rfl (by decide) fr (by decide) (fun h97 g98 hI fr => ?_)
                            have fl8 : FR [96] h h97 := by rw [g98]; exact FR_wI _ _ fl8 (by decide)
                            have s99 : (h97.1 96 7).toInt = (h30.1 96 7).toInt := by rw [g98, wI_at (by decide)]
                            have s100 : (h97.1 96 5).toInt = (h30.1 96 5).toInt := by rw [g98, wI_at (by decide)]
                            have s101 : (h97.1 96 8).toInt = (h30.1 96 8).toInt := by rw [g98, wI_at (by decide)]
                            have s102 : (h97.1 96 12).toInt = (h30.1 96 12).toInt := by rw [g98, wI_at (by decide)]
                            have s103 : (h97.1 96 13).toInt = (h30.1 96 13).toInt := by rw [g98, wI_at (by decide)]
                            have s104 : (h97.1 96 9).toInt = (h30.1 96 9).toInt := by rw [g98, wI_at (by decide)]
                            have s105 : (h97.1 96 10).toInt = 4 := by rw [g98, wI_is]; rfl
                            refine R_aload_n (k := 0) rfl rfl rfl ?_
                            refine R_dup_r rfl ?_
                            refine R_getf_i (j := 8) rfl ft_9_142 sh_96 rfl ?_
                            refine R_iconst 1 rfl rfl ?_
                            refine N_iadd (a := (h97.1 96 8).toInt) (b := 1) rfl rfl (by decide) (by omega) (fun x106 q107 => ?_)
                            refine K_putf (j := 8) (lo := 0) (hi' := 500) rfl ft_9_142 sh_96 rfl hI (by decide) rfl (by omega) fr (by decide) (fun h108 g109 hI fr => ?_)
                            have fl8 : FR [96] h h108 := by rw [g109]; exact FR_wI _ _ fl8 (by decide)
                            have s110 : (h108.1 96 7).toInt = (h97.1 96 7).toInt := by rw [g109, wI_at (by decide)]
                            have s111 : (h108.1 96 5).toInt = (h97.1 96 5).toInt := by rw [g109, wI_at (by decide)]
                            have s112 : (h108.1 96 12).toInt = (h97.1 96 12).toInt := by rw [g109, wI_at (by decide)]
                            have s113 : (h108.1 96 13).toInt = (h97.1 96 13).toInt := by rw [g109, wI_at (by decide)]
                            have s114 : (h108.1 96 9).toInt = (h97.1 96 9).toInt := by rw [g109, wI_at (by decide)]
                            have s115 : (h108.1 96 10).toInt = (h97.1 96 10).toInt := by rw [g109, wI_at (by decide)]
                            have s116 : (h108.1 96 8).toInt = x106.toInt := by rw [g109, wI_is]
                            exact R_vret rfl rfl ⟨hI, fr, ⟨by omega, by omega, by omega, by omega, trivial⟩, rfl⟩
                          · refine R_iconst 3 rfl rfl ?_
                            refine R_goto 226 rfl rfl ?_
                            refine K_putf (j := 10) (lo := (-2147483648)) (hi' := 2147483647) rfl ft_9_152 sh_96 rfl hI (by decide) rfl (by decide) fr (by decide) (fun h117 g118 hI fr => ?_)
                            have fl8 : FR [96] h h117 := by rw [g118]; exact FR_wI _ _ fl8 (by decide)
                            have s119 : (h117.1 96 7).toInt = (h30.1 96 7).toInt := by rw [g118, wI_at (by decide)]
                            have s120 : (h117.1 96 5).toInt = (h30.1 96 5).toInt := by rw [g118, wI_at (by decide)]
                            have s121 : (h117.1 96 8).toInt = (h30.1 96 8).toInt := by rw [g118, wI_at (by decide)]
                            have s122 : (h117.1 96 12).toInt = (h30.1 96 12).toInt := by rw [g118, wI_at (by decide)]
                            have s123 : (h117.1 96 13).toInt = (h30.1 96 13).toInt := by rw [g118, wI_at (by decide)]
                            have s124 : (h117.1 96 9).toInt = (h30.1 96 9).toInt := by rw [g118, wI_at (by decide)]
                            have s125 : (h117.1 96 10).toInt = 3 := by rw [g118, wI_is]; rfl
                            refine R_aload_n (k := 0) rfl rfl rfl ?_
                            refine R_dup_r rfl ?_
                            refine R_getf_i (j := 8) rfl ft_9_142 sh_96 rfl ?_
                            refine R_iconst 1 rfl rfl ?_
                            refine N_iadd (a := (h117.1 96 8).toInt) (b := 1) rfl rfl (by decide) (by omega) (fun x126 q127 => ?_)
                            refine K_putf (j := 8) (lo := 0) (hi' := 500) rfl ft_9_142 sh_96 rfl hI (by decide) rfl (by omega) fr (by decide) (fun h128 g129 hI fr => ?_)
                            have fl8 : FR [96] h h128 := by rw [g129]; exact FR_wI _ _ fl8 (by decide)
                            have s130 : (h128.1 96 7).toInt = (h117.1 96 7).toInt := by rw [g129, wI_at (by decide)]
                            have s131 : (h128.1 96 5).toInt = (h117.1 96 5).toInt := by rw [g129, wI_at (by decide)]
                            have s132 : (h128.1 96 12).toInt = (h117.1 96 12).toInt := by rw [g129, wI_at (by decide)]
                            have s133 : (h128.1 96 13).toInt = (h117.1 96 13).toInt := by rw [g129, wI_at (by decide)]
                            have s134 : (h128.1 96 9).toInt = (h117.1 96 9).toInt := by rw [g129, wI_at (by decide)]
                            have s135 : (h128.1 96 10).toInt = (h117.1 96 10).toInt := by rw [g129, wI_at (by decide)]
                            have s136 : (h128.1 96 8).toInt = x126.toInt := by rw [g129, wI_is]
                            exact R_vret rfl rfl ⟨hI, fr, ⟨by omega, by omega, by omega, by omega, trivial⟩, rfl⟩
                        · exfalso; omega
                      · show RUN d_X9_advance 136 [(1, .inl x41), (0, .inr (.inr (.inl 96)))] [.inl x71] h30 _
                        refine N_if_eq (a := x71.toInt) 214 rfl rfl rfl (fun c137 => ?_) (fun c137 => ?_)
                        · exfalso; omega
                        · refine R_aload_n (k := 0) rfl rfl rfl ?_
                          refine R_iconst 0 rfl rfl ?_
                          refine K_putf (j := 11) (lo := (-2147483648)) (hi' := 2147483647) rfl ft_9_163 sh_96 rfl hI (by decide) rfl (by decide) fr (by decide) (fun h138 g139 hI fr => ?_)
                          have fl8 : FR [96] h h138 := by rw [g139]; exact FR_wI _ _ fl8 (by decide)
                          have s140 : (h138.1 96 7).toInt = (h30.1 96 7).toInt := by rw [g139, wI_at (by decide)]
                          have s141 : (h138.1 96 5).toInt = (h30.1 96 5).toInt := by rw [g139, wI_at (by decide)]
                          have s142 : (h138.1 96 8).toInt = (h30.1 96 8).toInt := by rw [g139, wI_at (by decide)]
                          have s143 : (h138.1 96 12).toInt = (h30.1 96 12).toInt := by rw [g139, wI_at (by decide)]
                          have s144 : (h138.1 96 13).toInt = (h30.1 96 13).toInt := by rw [g139, wI_at (by decide)]
                          have s145 : (h138.1 96 9).toInt = (h30.1 96 9).toInt := by rw [g139, wI_at (by decide)]
                          have s146 : (h138.1 96 11).toInt = 0 := by rw [g139, wI_is]; rfl
                          have lp148 : ∀ (n147 : Nat) (h149 : PH), INV h149 → FR [96] h h149 → FR [96] h138 h149 → (h149.1 96 7).toInt = (h138.1 96 7).toInt → (h149.1 96 5).toInt = (h138.1 96 5).toInt → (h149.1 96 12).toInt = (h138.1 96 12).toInt → (h149.1 96 13).toInt = (h138.1 96 13).toInt → (h149.1 96 9).toInt = (h138.1 96 9).toInt → 2 ≤ (h149.1 96 8).toInt ∧ (h149.1 96 8).toInt ≤ 498 → (h149.1 96 11).toInt ≤ 99999 → (h149.1 96 8).toInt ≤ x41.toInt + 448 → (h149.1 96 8).toInt ≤ (h138.1 96 7).toInt + (-2) → (h138.1 96 7).toInt ≤ (h149.1 96 8).toInt + 0 → (h149.1 96 8).toInt ≤ (h138.1 96 5).toInt + 496 → (h149.1 96 8).toInt ≤ (h138.1 96 12).toInt + 496 → (h149.1 96 8).toInt ≤ (h138.1 96 9).toInt + (-1) → (h138.1 96 9).toInt ≤ (h149.1 96 8).toInt + (-1) → (498 - (h149.1 96 8).toInt).toNat < n147 → RUN d_X9_advance 144 [(1, .inl x41), (0, .inr (.inr (.inl 96)))] [] h149 (q_X9_advance h) := by
                            intro n147
                            induction n147 with
                            | zero => intro h149 m152 m153 m154 m155 m156 m157 m158 m159 m160 m161 m162 m163 m164 m165 m166 m167 m168 hz; exact absurd hz (Nat.not_lt_zero _)
                            | succ n147 ih151 =>
                              intro h149 hI fr fl150 m155 m156 m157 m158 m159 m160 m161 m162 m163 m164 m165 m166 m167 m168 hz
                              have fl8 : FR [96] h h149 := fl8.trans fl150 (by decide)
                              refine R_aload_n (k := 0) rfl rfl rfl ?_
                              refine R_aload_n (k := 0) rfl rfl rfl ?_
                              refine R_getf_i (j := 8) rfl ft_9_142 sh_96 rfl ?_
                              refine R_callV (v := .inr (.inr (.inl 96))) (As := [.inl (h149.1 96 8)]) (rest := []) rfl mt_9_i145 pp_X9_see (by decide) rfl rfl rfl (Nat.le_of_ble_eq_true rfl) (Nat.le_of_ble_eq_true rfl) ((k_X9_see h149 hI (h149.1 96 8) (by omega)).mono (fun r169 h170 p171 => ?_))
                              obtain ⟨rfl, x172, rfl, q173 | q173⟩ := p171
                              · show RUN d_X9_advance 152 [(1, .inl x41), (0, .inr (.inr (.inl 96)))] [.inl x172] h149 _
                                refine N_i2l rfl (fun w174 q175 => ?_)
                                refine R_ldc2 (x := 48) rfl kt_9_159 ?_
                                refine R_ldc2 (x := 57) rfl kt_9_161 ?_
                                have k176 : (48 : Int64).toInt = 48 := by decide
                                have k177 : (57 : Int64).toInt = 57 := by decide
                                refine R_callS (As := [.inr (.inl w174), .inr (.inl 48), .inr (.inl 57)]) (rest := []) rfl mt_9_i125 (by decide) pp_X9_in (by decide) rfl rfl (Nat.le_of_ble_eq_true rfl) (Nat.le_of_ble_eq_true rfl) ((k_X9_in h149 hI w174 (48 : Int64) (57 : Int64)).mono (fun r178 h179 p180 => ?_))
                                obtain ⟨rfl, x181, rfl, q182 | q182 | q182⟩ := p180
                                · show RUN d_X9_advance 162 [(1, .inl x41), (0, .inr (.inr (.inl 96)))] [.inl x181] h149 _
                                  refine N_if_eq (a := x181.toInt) 206 rfl rfl rfl (fun c183 => ?_) (fun c183 => ?_)
                                  · refine R_aload_n (k := 0) rfl rfl rfl ?_
                                    refine R_iconst 2 rfl rfl ?_
                                    refine K_putf (j := 10) (lo := (-2147483648)) (hi' := 2147483647) rfl ft_9_152 sh_96 rfl hI (by decide) rfl (by decide) fr (by decide) (fun h184 g185 hI fr => ?_)
                                    have fl150 : FR [96] h138 h184 := by rw [g185]; exact FR_wI _ _ fl150 (by decide)
                                    have fl8 : FR [96] h h184 := by rw [g185]; exact FR_wI _ _ fl8 (by decide)
                                    have s186 : (h184.1 96 7).toInt = (h149.1 96 7).toInt := by rw [g185, wI_at (by decide)]
                                    have s187 : (h184.1 96 5).toInt = (h149.1 96 5).toInt := by rw [g185, wI_at (by decide)]
                                    have s188 : (h184.1 96 8).toInt = (h149.1 96 8).toInt := by rw [g185, wI_at (by decide)]
                                    have s189 : (h184.1 96 12).toInt = (h149.1 96 12).toInt := by rw [g185, wI_at (by decide)]
                                    have s190 : (h184.1 96 13).toInt = (h149.1 96 13).toInt := by rw [g185, wI_at (by decide)]
                                    have s191 : (h184.1 96 9).toInt = (h149.1 96 9).toInt := by rw [g185, wI_at (by decide)]
                                    have s192 : (h184.1 96 11).toInt = (h149.1 96 11).toInt := by rw [g185, wI_at (by decide)]
                                    have s193 : (h184.1 96 10).toInt = 2 := by rw [g185, wI_is]; rfl
                                    refine R_goto 239 rfl rfl ?_
                                    exact R_vret rfl rfl ⟨hI, fr, ⟨by omega, by omega, by omega, by omega, trivial⟩, rfl⟩
                                  · exfalso; omega
                                · exfalso; omega
                                · exfalso; omega
                              · show RUN d_X9_advance 152 [(1, .inl x41), (0, .inr (.inr (.inl 96)))] [.inl x172] h149 _
                                refine N_i2l rfl (fun w194 q195 => ?_)
                                refine R_ldc2 (x := 48) rfl kt_9_159 ?_
                                refine R_ldc2 (x := 57) rfl kt_9_161 ?_
                                have k196 : (48 : Int64).toInt = 48 := by decide
                                have k197 : (57 : Int64).toInt = 57 := by decide
                                refine R_callS (As := [.inr (.inl w194), .inr (.inl 48), .inr (.inl 57)]) (rest := []) rfl mt_9_i125 (by decide) pp_X9_in (by decide) rfl rfl (Nat.le_of_ble_eq_true rfl) (Nat.le_of_ble_eq_true rfl) ((k_X9_in h149 hI w194 (48 : Int64) (57 : Int64)).mono (fun r198 h199 p200 => ?_))
                                obtain ⟨rfl, x201, rfl, q202 | q202 | q202⟩ := p200
                                · show RUN d_X9_advance 162 [(1, .inl x41), (0, .inr (.inr (.inl 96)))] [.inl x201] h149 _
                                  refine N_if_eq (a := x201.toInt) 206 rfl rfl rfl (fun c203 => ?_) (fun c203 => ?_)
                                  · refine R_aload_n (k := 0) rfl rfl rfl ?_
                                    refine R_iconst 2 rfl rfl ?_
                                    refine K_putf (j := 10) (lo := (-2147483648)) (hi' := 2147483647) rfl ft_9_152 sh_96 rfl hI (by decide) rfl (by decide) fr (by decide) (fun h204 g205 hI fr => ?_)
                                    have fl150 : FR [96] h138 h204 := by rw [g205]; exact FR_wI _ _ fl150 (by decide)
                                    have fl8 : FR [96] h h204 := by rw [g205]; exact FR_wI _ _ fl8 (by decide)
                                    have s206 : (h204.1 96 7).toInt = (h149.1 96 7).toInt := by rw [g205, wI_at (by decide)]
                                    have s207 : (h204.1 96 5).toInt = (h149.1 96 5).toInt := by rw [g205, wI_at (by decide)]
                                    have s208 : (h204.1 96 8).toInt = (h149.1 96 8).toInt := by rw [g205, wI_at (by decide)]
                                    have s209 : (h204.1 96 12).toInt = (h149.1 96 12).toInt := by rw [g205, wI_at (by decide)]
                                    have s210 : (h204.1 96 13).toInt = (h149.1 96 13).toInt := by rw [g205, wI_at (by decide)]
                                    have s211 : (h204.1 96 9).toInt = (h149.1 96 9).toInt := by rw [g205, wI_at (by decide)]
                                    have s212 : (h204.1 96 11).toInt = (h149.1 96 11).toInt := by rw [g205, wI_at (by decide)]
                                    have s213 : (h204.1 96 10).toInt = 2 := by rw [g205, wI_is]; rfl
                                    refine R_goto 239 rfl rfl ?_
                                    exact R_vret rfl rfl ⟨hI, fr, ⟨by omega, by omega, by omega, by omega, trivial⟩, rfl⟩
                                  · exfalso; omega
                                · show RUN d_X9_advance 162 [(1, .inl x41), (0, .inr (.inr (.inl 96)))] [.inl x201] h149 _
                                  refine N_if_eq (a := x201.toInt) 206 rfl rfl rfl (fun c214 => ?_) (fun c214 => ?_)
                                  · refine R_aload_n (k := 0) rfl rfl rfl ?_
                                    refine R_iconst 2 rfl rfl ?_
                                    refine K_putf (j := 10) (lo := (-2147483648)) (hi' := 2147483647) rfl ft_9_152 sh_96 rfl hI (by decide) rfl (by decide) fr (by decide) (fun h215 g216 hI fr => ?_)
                                    have fl150 : FR [96] h138 h215 := by rw [g216]; exact FR_wI _ _ fl150 (by decide)
                                    have fl8 : FR [96] h h215 := by rw [g216]; exact FR_wI _ _ fl8 (by decide)
                                    have s217 : (h215.1 96 7).toInt = (h149.1 96 7).toInt := by rw [g216, wI_at (by decide)]
                                    have s218 : (h215.1 96 5).toInt = (h149.1 96 5).toInt := by rw [g216, wI_at (by decide)]
                                    have s219 : (h215.1 96 8).toInt = (h149.1 96 8).toInt := by rw [g216, wI_at (by decide)]
                                    have s220 : (h215.1 96 12).toInt = (h149.1 96 12).toInt := by rw [g216, wI_at (by decide)]
                                    have s221 : (h215.1 96 13).toInt = (h149.1 96 13).toInt := by rw [g216, wI_at (by decide)]
                                    have s222 : (h215.1 96 9).toInt = (h149.1 96 9).toInt := by rw [g216, wI_at (by decide)]
                                    have s223 : (h215.1 96 11).toInt = (h149.1 96 11).toInt := by rw [g216, wI_at (by decide)]
                                    have s224 : (h215.1 96 10).toInt = 2 := by rw [g216, wI_is]; rfl
                                    refine R_goto 239 rfl rfl ?_
                                    exact R_vret rfl rfl ⟨hI, fr, ⟨by omega, by omega, by omega, by omega, trivial⟩, rfl⟩
                                  · exfalso; omega
                                · show RUN d_X9_advance 162 [(1, .inl x41), (0, .inr (.inr (.inl 96)))] [.inl x201] h149 _
                                  refine N_if_eq (a := x201.toInt) 206 rfl rfl rfl (fun c225 => ?_) (fun c225 => ?_)
                                  · exfalso; omega
                                  · refine R_aload_n (k := 0) rfl rfl rfl ?_
                                    refine R_ldc_i (x := 99999) rfl kt_9_166 ?_
                                    refine R_bipush 10 rfl rfl ?_
                                    refine R_aload_n (k := 0) rfl rfl rfl ?_
                                    refine R_getf_i (j := 11) rfl ft_9_163 sh_96 rfl ?_
                                    have b226 := i_rng (h149.1 96 11)
                                    refine R_imul rfl ?_
                                    refine N_any (fun x227 => ?_)
                                    refine R_aload_n (k := 0) rfl rfl rfl ?_
                                    refine R_aload_n (k := 0) rfl rfl rfl ?_
                                    refine R_getf_i (j := 8) rfl ft_9_142 sh_96 rfl ?_
                                    refine R_callV (v := .inr (.inr (.inl 96))) (As := [.inl (h149.1 96 8)]) (rest := [.inl x227, .inl 99999, .inr (.inr (.inl 96))]) rfl mt_9_i145 pp_X9_see (by decide) rfl rfl rfl (Nat.le_of_ble_eq_true rfl) (Nat.le_of_ble_eq_true rfl) ((k_X9_see h149 hI (h149.1 96 8) (by omega)).mono (fun r228 h229 p230 => ?_))
                                    obtain ⟨rfl, x231, rfl, q232 | q232⟩ := p230
                                    · show RUN d_X9_advance 183 [(1, .inl x41), (0, .inr (.inr (.inl 96)))] [.inl x231, .inl x227, .inl 99999, .inr (.inr (.inl 96))] h149 _
                                      have b233 := i_rng x227
                                      refine R_iadd rfl ?_
                                      refine N_any (fun x234 => ?_)
                                      refine R_bipush 48 rfl rfl ?_
                                      have b235 := i_rng x234
                                      refine R_isub rfl ?_
                                      refine N_any (fun x236 => ?_)
                                      refine N_min (a := 99999) (b := x236.toInt) rfl mt_9_i167 (by decide) rfl ⟨by decide, by decide, Nat.le_of_ble_eq_true rfl⟩ (fun x237 q238 => ?_)
                                      refine K_putf (j := 11) (lo := (-2147483648)) (hi' := 2147483647) rfl ft_9_163 sh_96 rfl hI (by decide) rfl (i_rng _) fr (by decide) (fun h239 g240 hI fr => ?_)
                                      have fl150 : FR [96] h138 h239 := by rw [g240]; exact FR_wI _ _ fl150 (by decide)
                                      have fl8 : FR [96] h h239 := by rw [g240]; exact FR_wI _ _ fl8 (by decide)
                                      have s241 : (h239.1 96 7).toInt = (h149.1 96 7).toInt := by rw [g240, wI_at (by decide)]
                                      have s242 : (h239.1 96 5).toInt = (h149.1 96 5).toInt := by rw [g240, wI_at (by decide)]
                                      have s243 : (h239.1 96 8).toInt = (h149.1 96 8).toInt := by rw [g240, wI_at (by decide)]
                                      have s244 : (h239.1 96 12).toInt = (h149.1 96 12).toInt := by rw [g240, wI_at (by decide)]
                                      have s245 : (h239.1 96 13).toInt = (h149.1 96 13).toInt := by rw [g240, wI_at (by decide)]
                                      have s246 : (h239.1 96 9).toInt = (h149.1 96 9).toInt := by rw [g240, wI_at (by decide)]
                                      have s247 : (h239.1 96 11).toInt = x237.toInt := by rw [g240, wI_is]
                                      refine R_aload_n (k := 0) rfl rfl rfl ?_
                                      refine R_dup_r rfl ?_
                                      refine R_getf_i (j := 8) rfl ft_9_142 sh_96 rfl ?_
                                      refine R_iconst 1 rfl rfl ?_
                                      refine N_iadd (a := (h239.1 96 8).toInt) (b := 1) rfl rfl (by decide) (by omega) (fun x248 q249 => ?_)
                                      refine K_putf (j := 8) (lo := 0) (hi' := 500) rfl ft_9_142 sh_96 rfl hI (by decide) rfl (by omega) fr (by decide) (fun h250 g251 hI fr => ?_)
                                      have fl150 : FR [96] h138 h250 := by rw [g251]; exact FR_wI _ _ fl150 (by decide)
                                      have fl8 : FR [96] h h250 := by rw [g251]; exact FR_wI _ _ fl8 (by decide)
                                      have s252 : (h250.1 96 7).toInt = (h239.1 96 7).toInt := by rw [g251, wI_at (by decide)]
                                      have s253 : (h250.1 96 5).toInt = (h239.1 96 5).toInt := by rw [g251, wI_at (by decide)]
                                      have s254 : (h250.1 96 12).toInt = (h239.1 96 12).toInt := by rw [g251, wI_at (by decide)]
                                      have s255 : (h250.1 96 13).toInt = (h239.1 96 13).toInt := by rw [g251, wI_at (by decide)]
                                      have s256 : (h250.1 96 9).toInt = (h239.1 96 9).toInt := by rw [g251, wI_at (by decide)]
                                      have s257 : (h250.1 96 11).toInt = (h239.1 96 11).toInt := by rw [g251, wI_at (by decide)]
                                      have s258 : (h250.1 96 8).toInt = x248.toInt := by rw [g251, wI_is]
                                      refine R_goto 144 rfl rfl ?_
                                      exact RUN_weak (psub_cons rfl (psub_cons rfl (psub_nil _))) (ih151 h250 hI fr fl150 (by omega) (by omega) (by omega) (by omega) (by omega) (by omega) (by omega) (by omega) (by omega) (by omega) (by omega) (by omega) (by omega) (by omega) (by omega))
                                    · show RUN d_X9_advance 183 [(1, .inl x41), (0, .inr (.inr (.inl 96)))] [.inl x231, .inl x227, .inl 99999, .inr (.inr (.inl 96))] h149 _
                                      have b259 := i_rng x227
                                      refine R_iadd rfl ?_
                                      refine N_any (fun x260 => ?_)
                                      refine R_bipush 48 rfl rfl ?_
                                      have b261 := i_rng x260
                                      refine R_isub rfl ?_
                                      refine N_any (fun x262 => ?_)
                                      refine N_min (a := 99999) (b := x262.toInt) rfl mt_9_i167 (by decide) rfl ⟨by decide, by decide, Nat.le_of_ble_eq_true rfl⟩ (fun x263 q264 => ?_)
                                      refine K_putf (j := 11) (lo := (-2147483648)) (hi' := 2147483647) rfl ft_9_163 sh_96 rfl hI (by decide) rfl (i_rng _) fr (by decide) (fun h265 g266 hI fr => ?_)
                                      have fl150 : FR [96] h138 h265 := by rw [g266]; exact FR_wI _ _ fl150 (by decide)
                                      have fl8 : FR [96] h h265 := by rw [g266]; exact FR_wI _ _ fl8 (by decide)
                                      have s267 : (h265.1 96 7).toInt = (h149.1 96 7).toInt := by rw [g266, wI_at (by decide)]
                                      have s268 : (h265.1 96 5).toInt = (h149.1 96 5).toInt := by rw [g266, wI_at (by decide)]
                                      have s269 : (h265.1 96 8).toInt = (h149.1 96 8).toInt := by rw [g266, wI_at (by decide)]
                                      have s270 : (h265.1 96 12).toInt = (h149.1 96 12).toInt := by rw [g266, wI_at (by decide)]
                                      have s271 : (h265.1 96 13).toInt = (h149.1 96 13).toInt := by rw [g266, wI_at (by decide)]
                                      have s272 : (h265.1 96 9).toInt = (h149.1 96 9).toInt := by rw [g266, wI_at (by decide)]
                                      have s273 : (h265.1 96 11).toInt = x263.toInt := by rw [g266, wI_is]
                                      refine R_aload_n (k := 0) rfl rfl rfl ?_
                                      refine R_dup_r rfl ?_
                                      refine R_getf_i (j := 8) rfl ft_9_142 sh_96 rfl ?_
                                      refine R_iconst 1 rfl rfl ?_
                                      refine N_iadd (a := (h265.1 96 8).toInt) (b := 1) rfl rfl (by decide) (by omega) (fun x274 q275 => ?_)
                                      refine K_putf (j := 8) (lo := 0) (hi' := 500) rfl ft_9_142 sh_96 rfl hI (by decide) rfl (by omega) fr (by decide) (fun h276 g277 hI fr => ?_)
                                      have fl150 : FR [96] h138 h276 := by rw [g277]; exact FR_wI _ _ fl150 (by decide)
                                      have fl8 : FR [96] h h276 := by rw [g277]; exact FR_wI _ _ fl8 (by decide)
                                      have s278 : (h276.1 96 7).toInt = (h265.1 96 7).toInt := by rw [g277, wI_at (by decide)]
                                      have s279 : (h276.1 96 5).toInt = (h265.1 96 5).toInt := by rw [g277, wI_at (by decide)]
                                      have s280 : (h276.1 96 12).toInt = (h265.1 96 12).toInt := by rw [g277, wI_at (by decide)]
                                      have s281 : (h276.1 96 13).toInt = (h265.1 96 13).toInt := by rw [g277, wI_at (by decide)]
                                      have s282 : (h276.1 96 9).toInt = (h265.1 96 9).toInt := by rw [g277, wI_at (by decide)]
                                      have s283 : (h276.1 96 11).toInt = (h265.1 96 11).toInt := by rw [g277, wI_at (by decide)]
                                      have s284 : (h276.1 96 8).toInt = x274.toInt := by rw [g277, wI_is]
                                      refine R_goto 144 rfl rfl ?_
                                      exact RUN_weak (psub_cons rfl (psub_cons rfl (psub_nil _))) (ih151 h276 hI fr fl150 (by omega) (by omega) (by omega) (by omega) (by omega) (by omega) (by omega) (by omega) (by omega) (by omega) (by omega) (by omega) (by omega) (by omega) (by omega))
                          exact lp148 _ h138 hI fr (FR.rf _ _) rfl rfl rfl rfl rfl (by omega) (by omega) (by omega) (by omega) (by omega) (by omega) (by omega) (by omega) (by omega) (Nat.lt_succ_self _)
                    · exfalso; omega
                  · show RUN d_X9_advance 80 [(1, .inl x41), (0, .inr (.inr (.inl 96)))] [.inl x61] h30 _
                    refine N_if_eq (a := x61.toInt) 125 rfl rfl rfl (fun c285 => ?_) (fun c285 => ?_)
                    · refine R_iload_n (k := 1) rfl rfl rfl ?_
                      refine N_i2l rfl (fun w286 q287 => ?_)
                      refine R_ldc2 (x := 48) rfl kt_9_159 ?_
                      refine R_ldc2 (x := 57) rfl kt_9_161 ?_
                      have k288 : (48 : Int64).toInt = 48 := by decide
                      have k289 : (57 : Int64).toInt = 57 := by decide
                      refine R_callS (As := [.inr (.inl w286), .inr (.inl 48), .inr (.inl 57)]) (rest := []) rfl mt_9_i125 (by decide) pp_X9_in (by decide) rfl rfl (Nat.le_of_ble_eq_true rfl) (Nat.le_of_ble_eq_true rfl) ((k_X9_in h30 hI w286 (48 : Int64) (57 : Int64)).mono (fun r290 h291 p292 => ?_))
                      obtain ⟨rfl, x293, rfl, q294 | q294 | q294⟩ := p292
                      · exfalso; omega
                      · show RUN d_X9_advance 136 [(1, .inl x41), (0, .inr (.inr (.inl 96)))] [.inl x293] h30 _
                        refine N_if_eq (a := x293.toInt) 214 rfl rfl rfl (fun c295 => ?_) (fun c295 => ?_)
                        · refine R_aload_n (k := 0) rfl rfl rfl ?_
                          refine R_iload_n (k := 1) rfl rfl rfl ?_
                          refine R_bipush 59 rfl rfl ?_
                          refine N_icmp_ne (a := x41.toInt) (b := 59) 225 rfl rfl rfl (by decide) (fun c296 => ?_) (fun c296 => ?_)
                          · refine R_iconst 4 rfl rfl ?_
                            refine K_putf (j := 10) (lo := (-2147483648)) (hi' := 2147483647) rfl ft_9_152 sh_96 rfl hI (by decide) rfl (by decide) fr (by decide) (fun h297 g298 hI fr => ?_)
                            have fl8 : FR [96] h h297 := by rw [g298]; exact FR_wI _ _ fl8 (by decide)
                            have s299 : (h297.1 96 7).toInt = (h30.1 96 7).toInt := by rw [g298, wI_at (by decide)]
                            have s300 : (h297.1 96 5).toInt = (h30.1 96 5).toInt := by rw [g298, wI_at (by decide)]
                            have s301 : (h297.1 96 8).toInt = (h30.1 96 8).toInt := by rw [g298, wI_at (by decide)]
                            have s302 : (h297.1 96 12).toInt = (h30.1 96 12).toInt := by rw [g298, wI_at (by decide)]
                            have s303 : (h297.1 96 13).toInt = (h30.1 96 13).toInt := by rw [g298, wI_at (by decide)]
                            have s304 : (h297.1 96 9).toInt = (h30.1 96 9).toInt := by rw [g298, wI_at (by decide)]
                            have s305 : (h297.1 96 10).toInt = 4 := by rw [g298, wI_is]; rfl
                            refine R_aload_n (k := 0) rfl rfl rfl ?_
                            refine R_dup_r rfl ?_
                            refine R_getf_i (j := 8) rfl ft_9_142 sh_96 rfl ?_
                            refine R_iconst 1 rfl rfl ?_
                            refine N_iadd (a := (h297.1 96 8).toInt) (b := 1) rfl rfl (by decide) (by omega) (fun x306 q307 => ?_)
                            refine K_putf (j := 8) (lo := 0) (hi' := 500) rfl ft_9_142 sh_96 rfl hI (by decide) rfl (by omega) fr (by decide) (fun h308 g309 hI fr => ?_)
                            have fl8 : FR [96] h h308 := by rw [g309]; exact FR_wI _ _ fl8 (by decide)
                            have s310 : (h308.1 96 7).toInt = (h297.1 96 7).toInt := by rw [g309, wI_at (by decide)]
                            have s311 : (h308.1 96 5).toInt = (h297.1 96 5).toInt := by rw [g309, wI_at (by decide)]
                            have s312 : (h308.1 96 12).toInt = (h297.1 96 12).toInt := by rw [g309, wI_at (by decide)]
                            have s313 : (h308.1 96 13).toInt = (h297.1 96 13).toInt := by rw [g309, wI_at (by decide)]
                            have s314 : (h308.1 96 9).toInt = (h297.1 96 9).toInt := by rw [g309, wI_at (by decide)]
                            have s315 : (h308.1 96 10).toInt = (h297.1 96 10).toInt := by rw [g309, wI_at (by decide)]
                            have s316 : (h308.1 96 8).toInt = x306.toInt := by rw [g309, wI_is]
                            exact R_vret rfl rfl ⟨hI, fr, ⟨by omega, by omega, by omega, by omega, trivial⟩, rfl⟩
                          · exfalso; omega
                        · exfalso; omega
                      · exfalso; omega
                    · exfalso; omega
                  · show RUN d_X9_advance 80 [(1, .inl x41), (0, .inr (.inr (.inl 96)))] [.inl x61] h30 _
                    refine N_if_eq (a := x61.toInt) 125 rfl rfl rfl (fun c317 => ?_) (fun c317 => ?_)
                    · exfalso; omega
                    · have lp319 : ∀ (n318 : Nat) (h320 : PH), INV h320 → FR [96] h h320 → FR [96] h30 h320 → (h320.1 96 7).toInt = (h30.1 96 7).toInt → (h320.1 96 5).toInt = (h30.1 96 5).toInt → (h320.1 96 12).toInt = (h30.1 96 12).toInt → (h320.1 96 13).toInt = (h30.1 96 13).toInt → (h320.1 96 9).toInt = (h30.1 96 9).toInt → 2 ≤ (h320.1 96 8).toInt ∧ (h320.1 96 8).toInt ≤ 498 → (h320.1 96 8).toInt ≤ x41.toInt + 399 → (h320.1 96 8).toInt ≤ (h30.1 96 7).toInt + (-2) → (h30.1 96 7).toInt ≤ (h320.1 96 8).toInt + (-1) → (h320.1 96 8).toInt ≤ (h30.1 96 5).toInt + 496 → (h320.1 96 8).toInt ≤ (h30.1 96 12).toInt + 496 → (h320.1 96 8).toInt ≤ (h30.1 96 9).toInt + (-2) → (h30.1 96 9).toInt ≤ (h320.1 96 8).toInt + (-1) → (498 - (h320.1 96 8).toInt).toNat < n318 → RUN d_X9_advance 83 [(1, .inl x41), (0, .inr (.inr (.inl 96)))] [] h320 (q_X9_advance h) := by
                        intro n318
                        induction n318 with
                        | zero => intro h320 m323 m324 m325 m326 m327 m328 m329 m330 m331 m332 m333 m334 m335 m336 m337 m338 hz; exact absurd hz (Nat.not_lt_zero _)
                        | succ n318 ih322 =>
                          intro h320 hI fr fl321 m326 m327 m328 m329 m330 m331 m332 m333 m334 m335 m336 m337 m338 hz
                          have fl8 : FR [96] h h320 := fl8.trans fl321 (by decide)
                          refine R_aload_n (k := 0) rfl rfl rfl ?_
                          refine R_aload_n (k := 0) rfl rfl rfl ?_
                          refine R_getf_i (j := 8) rfl ft_9_142 sh_96 rfl ?_
                          refine R_callV (v := .inr (.inr (.inl 96))) (As := [.inl (h320.1 96 8)]) (rest := []) rfl mt_9_i145 pp_X9_see (by decide) rfl rfl rfl (Nat.le_of_ble_eq_true rfl) (Nat.le_of_ble_eq_true rfl) ((k_X9_see h320 hI (h320.1 96 8) (by omega)).mono (fun r339 h340 p341 => ?_))
                          obtain ⟨rfl, x342, rfl, q343 | q343⟩ := p341
                          · show RUN d_X9_advance 91 [(1, .inl x41), (0, .inr (.inr (.inl 96)))] [.inl x342] h320 _
                            refine N_i2l rfl (fun w344 q345 => ?_)
                            refine R_ldc2 (x := 97) rfl kt_9_155 ?_
                            refine R_ldc2 (x := 122) rfl kt_9_157 ?_
                            have k346 : (97 : Int64).toInt = 97 := by decide
                            have k347 : (122 : Int64).toInt = 122 := by decide
                            refine R_callS (As := [.inr (.inl w344), .inr (.inl 97), .inr (.inl 122)]) (rest := []) rfl mt_9_i125 (by decide) pp_X9_in (by decide) rfl rfl (Nat.le_of_ble_eq_true rfl) (Nat.le_of_ble_eq_true rfl) ((k_X9_in h320 hI w344 (97 : Int64) (122 : Int64)).mono (fun r348 h349 p350 => ?_))
                            obtain ⟨rfl, x351, rfl, q352 | q352 | q352⟩ := p350
                            · show RUN d_X9_advance 101 [(1, .inl x41), (0, .inr (.inr (.inl 96)))] [.inl x351] h320 _
                              refine N_if_eq (a := x351.toInt) 117 rfl rfl rfl (fun c353 => ?_) (fun c353 => ?_)
                              · refine R_aload_n (k := 0) rfl rfl rfl ?_
                                refine R_iconst 1 rfl rfl ?_
                                refine K_putf (j := 10) (lo := (-2147483648)) (hi' := 2147483647) rfl ft_9_152 sh_96 rfl hI (by decide) rfl (by decide) fr (by decide) (fun h354 g355 hI fr => ?_)
                                have fl321 : FR [96] h30 h354 := by rw [g355]; exact FR_wI _ _ fl321 (by decide)
                                have fl8 : FR [96] h h354 := by rw [g355]; exact FR_wI _ _ fl8 (by decide)
                                have s356 : (h354.1 96 7).toInt = (h320.1 96 7).toInt := by rw [g355, wI_at (by decide)]
                                have s357 : (h354.1 96 5).toInt = (h320.1 96 5).toInt := by rw [g355, wI_at (by decide)]
                                have s358 : (h354.1 96 8).toInt = (h320.1 96 8).toInt := by rw [g355, wI_at (by decide)]
                                have s359 : (h354.1 96 12).toInt = (h320.1 96 12).toInt := by rw [g355, wI_at (by decide)]
                                have s360 : (h354.1 96 13).toInt = (h320.1 96 13).toInt := by rw [g355, wI_at (by decide)]
                                have s361 : (h354.1 96 9).toInt = (h320.1 96 9).toInt := by rw [g355, wI_at (by decide)]
                                have s362 : (h354.1 96 10).toInt = 1 := by rw [g355, wI_is]; rfl
                                refine R_goto 239 rfl rfl ?_
                                exact R_vret rfl rfl ⟨hI, fr, ⟨by omega, by omega, by omega, by omega, trivial⟩, rfl⟩
                              · exfalso; omega
                            · exfalso; omega
                            · exfalso; omega
                          · show RUN d_X9_advance 91 [(1, .inl x41), (0, .inr (.inr (.inl 96)))] [.inl x342] h320 _
                            refine N_i2l rfl (fun w363 q364 => ?_)
                            refine R_ldc2 (x := 97) rfl kt_9_155 ?_
                            refine R_ldc2 (x := 122) rfl kt_9_157 ?_
                            have k365 : (97 : Int64).toInt = 97 := by decide
                            have k366 : (122 : Int64).toInt = 122 := by decide
                            refine R_callS (As := [.inr (.inl w363), .inr (.inl 97), .inr (.inl 122)]) (rest := []) rfl mt_9_i125 (by decide) pp_X9_in (by decide) rfl rfl (Nat.le_of_ble_eq_true rfl) (Nat.le_of_ble_eq_true rfl) ((k_X9_in h320 hI w363 (97 : Int64) (122 : Int64)).mono (fun r367 h368 p369 => ?_))
                            obtain ⟨rfl, x370, rfl, q371 | q371 | q371⟩ := p369
                            · show RUN d_X9_advance 101 [(1, .inl x41), (0, .inr (.inr (.inl 96)))] [.inl x370] h320 _
                              refine N_if_eq (a := x370.toInt) 117 rfl rfl rfl (fun c372 => ?_) (fun c372 => ?_)
                              · refine R_aload_n (k := 0) rfl rfl rfl ?_
                                refine R_iconst 1 rfl rfl ?_
                                refine K_putf (j := 10) (lo := (-2147483648)) (hi' := 2147483647) rfl ft_9_152 sh_96 rfl hI (by decide) rfl (by decide) fr (by decide) (fun h373 g374 hI fr => ?_)
                                have fl321 : FR [96] h30 h373 := by rw [g374]; exact FR_wI _ _ fl321 (by decide)
                                have fl8 : FR [96] h h373 := by rw [g374]; exact FR_wI _ _ fl8 (by decide)
                                have s375 : (h373.1 96 7).toInt = (h320.1 96 7).toInt := by rw [g374, wI_at (by decide)]
                                have s376 : (h373.1 96 5).toInt = (h320.1 96 5).toInt := by rw [g374, wI_at (by decide)]
                                have s377 : (h373.1 96 8).toInt = (h320.1 96 8).toInt := by rw [g374, wI_at (by decide)]
                                have s378 : (h373.1 96 12).toInt = (h320.1 96 12).toInt := by rw [g374, wI_at (by decide)]
                                have s379 : (h373.1 96 13).toInt = (h320.1 96 13).toInt := by rw [g374, wI_at (by decide)]
                                have s380 : (h373.1 96 9).toInt = (h320.1 96 9).toInt := by rw [g374, wI_at (by decide)]
                                have s381 : (h373.1 96 10).toInt = 1 := by rw [g374, wI_is]; rfl
                                refine R_goto 239 rfl rfl ?_
                                exact R_vret rfl rfl ⟨hI, fr, ⟨by omega, by omega, by omega, by omega, trivial⟩, rfl⟩
                              · exfalso; omega
                            · show RUN d_X9_advance 101 [(1, .inl x41), (0, .inr (.inr (.inl 96)))] [.inl x370] h320 _
                              refine N_if_eq (a := x370.toInt) 117 rfl rfl rfl (fun c382 => ?_) (fun c382 => ?_)
                              · refine R_aload_n (k := 0) rfl rfl rfl ?_
                                refine R_iconst 1 rfl rfl ?_
                                refine K_putf (j := 10) (lo := (-2147483648)) (hi' := 2147483647) rfl ft_9_152 sh_96 rfl hI (by decide) rfl (by decide) fr (by decide) (fun h383 g384 hI fr => ?_)
                                have fl321 : FR [96] h30 h383 := by rw [g384]; exact FR_wI _ _ fl321 (by decide)
                                have fl8 : FR [96] h h383 := by rw [g384]; exact FR_wI _ _ fl8 (by decide)
                                have s385 : (h383.1 96 7).toInt = (h320.1 96 7).toInt := by rw [g384, wI_at (by decide)]
                                have s386 : (h383.1 96 5).toInt = (h320.1 96 5).toInt := by rw [g384, wI_at (by decide)]
                                have s387 : (h383.1 96 8).toInt = (h320.1 96 8).toInt := by rw [g384, wI_at (by decide)]
                                have s388 : (h383.1 96 12).toInt = (h320.1 96 12).toInt := by rw [g384, wI_at (by decide)]
                                have s389 : (h383.1 96 13).toInt = (h320.1 96 13).toInt := by rw [g384, wI_at (by decide)]
                                have s390 : (h383.1 96 9).toInt = (h320.1 96 9).toInt := by rw [g384, wI_at (by decide)]
                                have s391 : (h383.1 96 10).toInt = 1 := by rw [g384, wI_is]; rfl
                                refine R_goto 239 rfl rfl ?_
                                exact R_vret rfl rfl ⟨hI, fr, ⟨by omega, by omega, by omega, by omega, trivial⟩, rfl⟩
                              · exfalso; omega
                            · show RUN d_X9_advance 101 [(1, .inl x41), (0, .inr (.inr (.inl 96)))] [.inl x370] h320 _
                              refine N_if_eq (a := x370.toInt) 117 rfl rfl rfl (fun c392 => ?_) (fun c392 => ?_)
                              · exfalso; omega
                              · refine R_aload_n (k := 0) rfl rfl rfl ?_
                                refine R_dup_r rfl ?_
                                refine R_getf_i (j := 8) rfl ft_9_142 sh_96 rfl ?_
                                refine R_iconst 1 rfl rfl ?_
                                refine N_iadd (a := (h320.1 96 8).toInt) (b := 1) rfl rfl (by decide) (by omega) (fun x393 q394 => ?_)
                                refine K_putf (j := 8) (lo := 0) (hi' := 500) rfl ft_9_142 sh_96 rfl hI (by decide) rfl (by omega) fr (by decide) (fun h395 g396 hI fr => ?_)
                                have fl321 : FR [96] h30 h395 := by rw [g396]; exact FR_wI _ _ fl321 (by decide)
                                have fl8 : FR [96] h h395 := by rw [g396]; exact FR_wI _ _ fl8 (by decide)
                                have s397 : (h395.1 96 7).toInt = (h320.1 96 7).toInt := by rw [g396, wI_at (by decide)]
                                have s398 : (h395.1 96 5).toInt = (h320.1 96 5).toInt := by rw [g396, wI_at (by decide)]
                                have s399 : (h395.1 96 12).toInt = (h320.1 96 12).toInt := by rw [g396, wI_at (by decide)]
                                have s400 : (h395.1 96 13).toInt = (h320.1 96 13).toInt := by rw [g396, wI_at (by decide)]
                                have s401 : (h395.1 96 9).toInt = (h320.1 96 9).toInt := by rw [g396, wI_at (by decide)]
                                have s402 : (h395.1 96 8).toInt = x393.toInt := by rw [g396, wI_is]
                                refine R_goto 83 rfl rfl ?_
                                exact RUN_weak (psub_cons rfl (psub_cons rfl (psub_nil _))) (ih322 h395 hI fr fl321 (by omega) (by omega) (by omega) (by omega) (by omega) (by omega) (by omega) (by omega) (by omega) (by omega) (by omega) (by omega) (by omega) (by omega))
                      exact lp319 _ h30 hI fr (FR.rf _ _) rfl rfl rfl rfl rfl (by omega) (by omega) (by omega) (by omega) (by omega) (by omega) (by omega) (by omega) (Nat.lt_succ_self _)
                · exfalso; omega
            · exfalso; omega
          · show RUN d_X9_advance 21 [(0, .inr (.inr (.inl 96)))] [.inl x27] h7 _
            refine R_bipush 10 rfl rfl ?_
            refine N_icmp_ne (a := x27.toInt) (b := 10) 39 rfl rfl rfl (by decide) (fun c403 => ?_) (fun c403 => ?_)
            · refine R_aload_n (k := 0) rfl rfl rfl ?_
              refine R_aload_n (k := 0) rfl rfl rfl ?_
              refine R_getf_i (j := 8) rfl ft_9_142 sh_96 rfl ?_
              refine K_putf (j := 9) (lo := 0) (hi' := 500) rfl ft_9_149 sh_96 rfl hI (by decide) rfl (by omega) fr (by decide) (fun h404 g405 hI fr => ?_)
              have fl8 : FR [96] h h404 := by rw [g405]; exact FR_wI _ _ fl8 (by decide)
              have s406 : (h404.1 96 7).toInt = (h7.1 96 7).toInt := by rw [g405, wI_at (by decide)]
              have s407 : (h404.1 96 5).toInt = (h7.1 96 5).toInt := by rw [g405, wI_at (by decide)]
              have s408 : (h404.1 96 8).toInt = (h7.1 96 8).toInt := by rw [g405, wI_at (by decide)]
              have s409 : (h404.1 96 12).toInt = (h7.1 96 12).toInt := by rw [g405, wI_at (by decide)]
              have s410 : (h404.1 96 13).toInt = (h7.1 96 13).toInt := by rw [g405, wI_at (by decide)]
              have s411 : (h404.1 96 9).toInt = (h7.1 96 8).toInt := by rw [g405, wI_is]
              refine R_aload_n (k := 0) rfl rfl rfl ?_
              refine R_aload_n (k := 0) rfl rfl rfl ?_
              refine R_getf_i (j := 8) rfl ft_9_142 sh_96 rfl ?_
              refine R_callV (v := .inr (.inr (.inl 96))) (As := [.inl (h404.1 96 8)]) (rest := []) rfl mt_9_i145 pp_X9_see (by decide) rfl rfl rfl (Nat.le_of_ble_eq_true rfl) (Nat.le_of_ble_eq_true rfl) ((k_X9_see h404 hI (h404.1 96 8) (by omega)).mono (fun r412 h413 p414 => ?_))
              obtain ⟨rfl, x415, rfl, q416 | q416⟩ := p414
              · show RUN d_X9_advance 55 [(0, .inr (.inr (.inl 96)))] [.inl x415] h404 _
                refine R_istore_n (k := 1) rfl [(1, .inl x415), (0, .inr (.inr (.inl 96)))] rfl rfl (by decide) ?_
                refine R_iload_n (k := 1) rfl rfl rfl ?_
                refine R_iconst (-1) rfl rfl ?_
                refine N_icmp_ne (a := x415.toInt) (b := (-1)) 69 rfl rfl rfl (by decide) (fun c417 => ?_) (fun c417 => ?_)
                · exfalso; omega
                · refine R_aload_n (k := 0) rfl rfl rfl ?_
                  refine R_iconst 0 rfl rfl ?_
                  refine K_putf (j := 10) (lo := (-2147483648)) (hi' := 2147483647) rfl ft_9_152 sh_96 rfl hI (by decide) rfl (by decide) fr (by decide) (fun h418 g419 hI fr => ?_)
                  have fl8 : FR [96] h h418 := by rw [g419]; exact FR_wI _ _ fl8 (by decide)
                  have s420 : (h418.1 96 7).toInt = (h404.1 96 7).toInt := by rw [g419, wI_at (by decide)]
                  have s421 : (h418.1 96 5).toInt = (h404.1 96 5).toInt := by rw [g419, wI_at (by decide)]
                  have s422 : (h418.1 96 8).toInt = (h404.1 96 8).toInt := by rw [g419, wI_at (by decide)]
                  have s423 : (h418.1 96 12).toInt = (h404.1 96 12).toInt := by rw [g419, wI_at (by decide)]
                  have s424 : (h418.1 96 13).toInt = (h404.1 96 13).toInt := by rw [g419, wI_at (by decide)]
                  have s425 : (h418.1 96 9).toInt = (h404.1 96 9).toInt := by rw [g419, wI_at (by decide)]
                  have s426 : (h418.1 96 10).toInt = 0 := by rw [g419, wI_is]; rfl
                  refine R_goto 239 rfl rfl ?_
                  exact R_vret rfl rfl ⟨hI, fr, ⟨by omega, by omega, by omega, by omega, trivial⟩, rfl⟩
              · show RUN d_X9_advance 55 [(0, .inr (.inr (.inl 96)))] [.inl x415] h404 _
                refine R_istore_n (k := 1) rfl [(1, .inl x415), (0, .inr (.inr (.inl 96)))] rfl rfl (by decide) ?_
                refine R_iload_n (k := 1) rfl rfl rfl ?_
                refine R_iconst (-1) rfl rfl ?_
                refine N_icmp_ne (a := x415.toInt) (b := (-1)) 69 rfl rfl rfl (by decide) (fun c427 => ?_) (fun c427 => ?_)
                · refine R_iload_n (k := 1) rfl rfl rfl ?_
                  refine N_i2l rfl (fun w428 q429 => ?_)
                  refine R_ldc2 (x := 97) rfl kt_9_155 ?_
                  refine R_ldc2 (x := 122) rfl kt_9_157 ?_
                  have k430 : (97 : Int64).toInt = 97 := by decide
                  have k431 : (122 : Int64).toInt = 122 := by decide
                  refine R_callS (As := [.inr (.inl w428), .inr (.inl 97), .inr (.inl 122)]) (rest := []) rfl mt_9_i125 (by decide) pp_X9_in (by decide) rfl rfl (Nat.le_of_ble_eq_true rfl) (Nat.le_of_ble_eq_true rfl) ((k_X9_in h404 hI w428 (97 : Int64) (122 : Int64)).mono (fun r432 h433 p434 => ?_))
                  obtain ⟨rfl, x435, rfl, q436 | q436 | q436⟩ := p434
                  · show RUN d_X9_advance 80 [(1, .inl x415), (0, .inr (.inr (.inl 96)))] [.inl x435] h404 _
                    refine N_if_eq (a := x435.toInt) 125 rfl rfl rfl (fun c437 => ?_) (fun c437 => ?_)
                    · refine R_iload_n (k := 1) rfl rfl rfl ?_
                      refine N_i2l rfl (fun w438 q439 => ?_)
                      refine R_ldc2 (x := 48) rfl kt_9_159 ?_
                      refine R_ldc2 (x := 57) rfl kt_9_161 ?_
                      have k440 : (48 : Int64).toInt = 48 := by decide
                      have k441 : (57 : Int64).toInt = 57 := by decide
                      refine R_callS (As := [.inr (.inl w438), .inr (.inl 48), .inr (.inl 57)]) (rest := []) rfl mt_9_i125 (by decide) pp_X9_in (by decide) rfl rfl (Nat.le_of_ble_eq_true rfl) (Nat.le_of_ble_eq_true rfl) ((k_X9_in h404 hI w438 (48 : Int64) (57 : Int64)).mono (fun r442 h443 p444 => ?_))
                      obtain ⟨rfl, x445, rfl, q446 | q446 | q446⟩ := p444
                      · show RUN d_X9_advance 136 [(1, .inl x415), (0, .inr (.inr (.inl 96)))] [.inl x445] h404 _
                        refine N_if_eq (a := x445.toInt) 214 rfl rfl rfl (fun c447 => ?_) (fun c447 => ?_)
                        · refine R_aload_n (k := 0) rfl rfl rfl ?_
                          refine R_iload_n (k := 1) rfl rfl rfl ?_
                          refine R_bipush 59 rfl rfl ?_
                          refine N_icmp_ne (a := x415.toInt) (b := 59) 225 rfl rfl rfl (by decide) (fun c448 => ?_) (fun c448 => ?_)
                          · refine R_iconst 4 rfl rfl ?_
                            refine K_putf (j := 10) (lo := (-2147483648)) (hi' := 2147483647) rfl ft_9_152 sh_96 rfl hI (by decide) rfl (by decide) fr (by decide) (fun h449 g450 hI fr => ?_)
                            have fl8 : FR [96] h h449 := by rw [g450]; exact FR_wI _ _ fl8 (by decide)
                            have s451 : (h449.1 96 7).toInt = (h404.1 96 7).toInt := by rw [g450, wI_at (by decide)]
                            have s452 : (h449.1 96 5).toInt = (h404.1 96 5).toInt := by rw [g450, wI_at (by decide)]
                            have s453 : (h449.1 96 8).toInt = (h404.1 96 8).toInt := by rw [g450, wI_at (by decide)]
                            have s454 : (h449.1 96 12).toInt = (h404.1 96 12).toInt := by rw [g450, wI_at (by decide)]
                            have s455 : (h449.1 96 13).toInt = (h404.1 96 13).toInt := by rw [g450, wI_at (by decide)]
                            have s456 : (h449.1 96 9).toInt = (h404.1 96 9).toInt := by rw [g450, wI_at (by decide)]
                            have s457 : (h449.1 96 10).toInt = 4 := by rw [g450, wI_is]; rfl
                            refine R_aload_n (k := 0) rfl rfl rfl ?_
                            refine R_dup_r rfl ?_
                            refine R_getf_i (j := 8) rfl ft_9_142 sh_96 rfl ?_
                            refine R_iconst 1 rfl rfl ?_
                            refine N_iadd (a := (h449.1 96 8).toInt) (b := 1) rfl rfl (by decide) (by omega) (fun x458 q459 => ?_)
                            refine K_putf (j := 8) (lo := 0) (hi' := 500) rfl ft_9_142 sh_96 rfl hI (by decide) rfl (by omega) fr (by decide) (fun h460 g461 hI fr => ?_)
                            have fl8 : FR [96] h h460 := by rw [g461]; exact FR_wI _ _ fl8 (by decide)
                            have s462 : (h460.1 96 7).toInt = (h449.1 96 7).toInt := by rw [g461, wI_at (by decide)]
                            have s463 : (h460.1 96 5).toInt = (h449.1 96 5).toInt := by rw [g461, wI_at (by decide)]
                            have s464 : (h460.1 96 12).toInt = (h449.1 96 12).toInt := by rw [g461, wI_at (by decide)]
                            have s465 : (h460.1 96 13).toInt = (h449.1 96 13).toInt := by rw [g461, wI_at (by decide)]
                            have s466 : (h460.1 96 9).toInt = (h449.1 96 9).toInt := by rw [g461, wI_at (by decide)]
                            have s467 : (h460.1 96 10).toInt = (h449.1 96 10).toInt := by rw [g461, wI_at (by decide)]
                            have s468 : (h460.1 96 8).toInt = x458.toInt := by rw [g461, wI_is]
                            exact R_vret rfl rfl ⟨hI, fr, ⟨by omega, by omega, by omega, by omega, trivial⟩, rfl⟩
                          · exfalso; omega
                        · exfalso; omega
                      · show RUN d_X9_advance 136 [(1, .inl x415), (0, .inr (.inr (.inl 96)))] [.inl x445] h404 _
                        refine N_if_eq (a := x445.toInt) 214 rfl rfl rfl (fun c469 => ?_) (fun c469 => ?_)
                        · refine R_aload_n (k := 0) rfl rfl rfl ?_
                          refine R_iload_n (k := 1) rfl rfl rfl ?_
                          refine R_bipush 59 rfl rfl ?_
                          refine N_icmp_ne (a := x415.toInt) (b := 59) 225 rfl rfl rfl (by decide) (fun c470 => ?_) (fun c470 => ?_)
                          · refine R_iconst 4 rfl rfl ?_
                            refine K_putf (j := 10) (lo := (-2147483648)) (hi' := 2147483647) rfl ft_9_152 sh_96 rfl hI (by decide) rfl (by decide) fr (by decide) (fun h471 g472 hI fr => ?_)
                            have fl8 : FR [96] h h471 := by rw [g472]; exact FR_wI _ _ fl8 (by decide)
                            have s473 : (h471.1 96 7).toInt = (h404.1 96 7).toInt := by rw [g472, wI_at (by decide)]
                            have s474 : (h471.1 96 5).toInt = (h404.1 96 5).toInt := by rw [g472, wI_at (by decide)]
                            have s475 : (h471.1 96 8).toInt = (h404.1 96 8).toInt := by rw [g472, wI_at (by decide)]
                            have s476 : (h471.1 96 12).toInt = (h404.1 96 12).toInt := by rw [g472, wI_at (by decide)]
                            have s477 : (h471.1 96 13).toInt = (h404.1 96 13).toInt := by rw [g472, wI_at (by decide)]
                            have s478 : (h471.1 96 9).toInt = (h404.1 96 9).toInt := by rw [g472, wI_at (by decide)]
                            have s479 : (h471.1 96 10).toInt = 4 := by rw [g472, wI_is]; rfl
                            refine R_aload_n (k := 0) rfl rfl rfl ?_
                            refine R_dup_r rfl ?_
                            refine R_getf_i (j := 8) rfl ft_9_142 sh_96 rfl ?_
                            refine R_iconst 1 rfl rfl ?_
                            refine N_iadd (a := (h471.1 96 8).toInt) (b := 1) rfl rfl (by decide) (by omega) (fun x480 q481 => ?_)
                            refine K_putf (j := 8) (lo := 0) (hi' := 500) rfl ft_9_142 sh_96 rfl hI (by decide) rfl (by omega) fr (by decide) (fun h482 g483 hI fr => ?_)
                            have fl8 : FR [96] h h482 := by rw [g483]; exact FR_wI _ _ fl8 (by decide)
                            have s484 : (h482.1 96 7).toInt = (h471.1 96 7).toInt := by rw [g483, wI_at (by decide)]
                            have s485 : (h482.1 96 5).toInt = (h471.1 96 5).toInt := by rw [g483, wI_at (by decide)]
                            have s486 : (h482.1 96 12).toInt = (h471.1 96 12).toInt := by rw [g483, wI_at (by decide)]
                            have s487 : (h482.1 96 13).toInt = (h471.1 96 13).toInt := by rw [g483, wI_at (by decide)]
                            have s488 : (h482.1 96 9).toInt = (h471.1 96 9).toInt := by rw [g483, wI_at (by decide)]
                            have s489 : (h482.1 96 10).toInt = (h471.1 96 10).toInt := by rw [g483, wI_at (by decide)]
                            have s490 : (h482.1 96 8).toInt = x480.toInt := by rw [g483, wI_is]
                            exact R_vret rfl rfl ⟨hI, fr, ⟨by omega, by omega, by omega, by omega, trivial⟩, rfl⟩
                          · refine R_iconst 3 rfl rfl ?_
                            refine R_goto 226 rfl rfl ?_
                            refine K_putf (j := 10) (lo := (-2147483648)) (hi' := 2147483647) rfl ft_9_152 sh_96 rfl hI (by decide) rfl (by decide) fr (by decide) (fun h491 g492 hI fr => ?_)
                            have fl8 : FR [96] h h491 := by rw [g492]; exact FR_wI _ _ fl8 (by decide)
                            have s493 : (h491.1 96 7).toInt = (h404.1 96 7).toInt := by rw [g492, wI_at (by decide)]
                            have s494 : (h491.1 96 5).toInt = (h404.1 96 5).toInt := by rw [g492, wI_at (by decide)]
                            have s495 : (h491.1 96 8).toInt = (h404.1 96 8).toInt := by rw [g492, wI_at (by decide)]
                            have s496 : (h491.1 96 12).toInt = (h404.1 96 12).toInt := by rw [g492, wI_at (by decide)]
                            have s497 : (h491.1 96 13).toInt = (h404.1 96 13).toInt := by rw [g492, wI_at (by decide)]
                            have s498 : (h491.1 96 9).toInt = (h404.1 96 9).toInt := by rw [g492, wI_at (by decide)]
                            have s499 : (h491.1 96 10).toInt = 3 := by rw [g492, wI_is]; rfl
                            refine R_aload_n (k := 0) rfl rfl rfl ?_
                            refine R_dup_r rfl ?_
                            refine R_getf_i (j := 8) rfl ft_9_142 sh_96 rfl ?_
                            refine R_iconst 1 rfl rfl ?_
                            refine N_iadd (a := (h491.1 96 8).toInt) (b := 1) rfl rfl (by decide) (by omega) (fun x500 q501 => ?_)
                            refine K_putf (j := 8) (lo := 0) (hi' := 500) rfl ft_9_142 sh_96 rfl hI (by decide) rfl (by omega) fr (by decide) (fun h502 g503 hI fr => ?_)
                            have fl8 : FR [96] h h502 := by rw [g503]; exact FR_wI _ _ fl8 (by decide)
                            have s504 : (h502.1 96 7).toInt = (h491.1 96 7).toInt := by rw [g503, wI_at (by decide)]
                            have s505 : (h502.1 96 5).toInt = (h491.1 96 5).toInt := by rw [g503, wI_at (by decide)]
                            have s506 : (h502.1 96 12).toInt = (h491.1 96 12).toInt := by rw [g503, wI_at (by decide)]
                            have s507 : (h502.1 96 13).toInt = (h491.1 96 13).toInt := by rw [g503, wI_at (by decide)]
                            have s508 : (h502.1 96 9).toInt = (h491.1 96 9).toInt := by rw [g503, wI_at (by decide)]
                            have s509 : (h502.1 96 10).toInt = (h491.1 96 10).toInt := by rw [g503, wI_at (by decide)]
                            have s510 : (h502.1 96 8).toInt = x500.toInt := by rw [g503, wI_is]
                            exact R_vret rfl rfl ⟨hI, fr, ⟨by omega, by omega, by omega, by omega, trivial⟩, rfl⟩
                        · exfalso; omega
                      · show RUN d_X9_advance 136 [(1, .inl x415), (0, .inr (.inr (.inl 96)))] [.inl x445] h404 _
                        refine N_if_eq (a := x445.toInt) 214 rfl rfl rfl (fun c511 => ?_) (fun c511 => ?_)
                        · exfalso; omega
                        · refine R_aload_n (k := 0) rfl rfl rfl ?_
                          refine R_iconst 0 rfl rfl ?_
                          refine K_putf (j := 11) (lo := (-2147483648)) (hi' := 2147483647) rfl ft_9_163 sh_96 rfl hI (by decide) rfl (by decide) fr (by decide) (fun h512 g513 hI fr => ?_)
                          have fl8 : FR [96] h h512 := by rw [g513]; exact FR_wI _ _ fl8 (by decide)
                          have s514 : (h512.1 96 7).toInt = (h404.1 96 7).toInt := by rw [g513, wI_at (by decide)]
                          have s515 : (h512.1 96 5).toInt = (h404.1 96 5).toInt := by rw [g513, wI_at (by decide)]
                          have s516 : (h512.1 96 8).toInt = (h404.1 96 8).toInt := by rw [g513, wI_at (by decide)]
                          have s517 : (h512.1 96 12).toInt = (h404.1 96 12).toInt := by rw [g513, wI_at (by decide)]
                          have s518 : (h512.1 96 13).toInt = (h404.1 96 13).toInt := by rw [g513, wI_at (by decide)]
                          have s519 : (h512.1 96 9).toInt = (h404.1 96 9).toInt := by rw [g513, wI_at (by decide)]
                          have s520 : (h512.1 96 11).toInt = 0 := by rw [g513, wI_is]; rfl
                          have lp522 : ∀ (n521 : Nat) (h523 : PH), INV h523 → FR [96] h h523 → FR [96] h512 h523 → (h523.1 96 7).toInt = (h512.1 96 7).toInt → (h523.1 96 5).toInt = (h512.1 96 5).toInt → (h523.1 96 12).toInt = (h512.1 96 12).toInt → (h523.1 96 13).toInt = (h512.1 96 13).toInt → (h523.1 96 9).toInt = (h512.1 96 9).toInt → 2 ≤ (h523.1 96 8).toInt ∧ (h523.1 96 8).toInt ≤ 492 → (h523.1 96 11).toInt ≤ 99999 → (h523.1 96 8).toInt ≤ x415.toInt + 441 → (h523.1 96 8).toInt ≤ (h512.1 96 7).toInt + (-2) → (h512.1 96 7).toInt ≤ (h523.1 96 8).toInt + (-1) → (h523.1 96 8).toInt ≤ (h512.1 96 5).toInt + 489 → (h523.1 96 8).toInt ≤ (h512.1 96 12).toInt + 489 → (h523.1 96 8).toInt ≤ (h512.1 96 9).toInt + (-2) → (h512.1 96 9).toInt ≤ (h523.1 96 8).toInt + (-2) → (492 - (h523.1 96 8).toInt).toNat < n521 → RUN d_X9_advance 144 [(1, .inl x415), (0, .inr (.inr (.inl 96)))] [] h523 (q_X9_advance h) := by
                            intro n521
                            induction n521 with
                            | zero => intro h523 m526 m527 m528 m529 m530 m531 m532 m533 m534 m535 m536 m537 m538 m539 m540 m541 m542 hz; exact absurd hz (Nat.not_lt_zero _)
                            | succ n521 ih525 =>
                              intro h523 hI fr fl524 m529 m530 m531 m532 m533 m534 m535 m536 m537 m538 m539 m540 m541 m542 hz
                              have fl8 : FR [96] h h523 := fl8.trans fl524 (by decide)
                              refine R_aload_n (k := 0) rfl rfl rfl ?_
                              refine R_aload_n (k := 0) rfl rfl rfl ?_
                              refine R_getf_i (j := 8) rfl ft_9_142 sh_96 rfl ?_
                              refine R_callV (v := .inr (.inr (.inl 96))) (As := [.inl (h523.1 96 8)]) (rest := []) rfl mt_9_i145 pp_X9_see (by decide) rfl rfl rfl (Nat.le_of_ble_eq_true rfl) (Nat.le_of_ble_eq_true rfl) ((k_X9_see h523 hI (h523.1 96 8) (by omega)).mono (fun r543 h544 p545 => ?_))
                              obtain ⟨rfl, x546, rfl, q547 | q547⟩ := p545
                              · show RUN d_X9_advance 152 [(1, .inl x415), (0, .inr (.inr (.inl 96)))] [.inl x546] h523 _
                                refine N_i2l rfl (fun w548 q549 => ?_)
                                refine R_ldc2 (x := 48) rfl kt_9_159 ?_
                                refine R_ldc2 (x := 57) rfl kt_9_161 ?_
                                have k550 : (48 : Int64).toInt = 48 := by decide
                                have k551 : (57 : Int64).toInt = 57 := by decide
                                refine R_callS (As := [.inr (.inl w548), .inr (.inl 48), .inr (.inl 57)]) (rest := []) rfl mt_9_i125 (by decide) pp_X9_in (by decide) rfl rfl (Nat.le_of_ble_eq_true rfl) (Nat.le_of_ble_eq_true rfl) ((k_X9_in h523 hI w548 (48 : Int64) (57 : Int64)).mono (fun r552 h553 p554 => ?_))
                                obtain ⟨rfl, x555, rfl, q556 | q556 | q556⟩ := p554
                                · show RUN d_X9_advance 162 [(1, .inl x415), (0, .inr (.inr (.inl 96)))] [.inl x555] h523 _
                                  refine N_if_eq (a := x555.toInt) 206 rfl rfl rfl (fun c557 => ?_) (fun c557 => ?_)
                                  · refine R_aload_n (k := 0) rfl rfl rfl ?_
                                    refine R_iconst 2 rfl rfl ?_
                                    refine K_putf (j := 10) (lo := (-2147483648)) (hi' := 2147483647) rfl ft_9_152 sh_96 rfl hI (by decide) rfl (by decide) fr (by decide) (fun h558 g559 hI fr => ?_)
                                    have fl524 : FR [96] h512 h558 := by rw [g559]; exact FR_wI _ _ fl524 (by decide)
                                    have fl8 : FR [96] h h558 := by rw [g559]; exact FR_wI _ _ fl8 (by decide)
                                    have s560 : (h558.1 96 7).toInt = (h523.1 96 7).toInt := by rw [g559, wI_at (by decide)]
                                    have s561 : (h558.1 96 5).toInt = (h523.1 96 5).toInt := by rw [g559, wI_at (by decide)]
                                    have s562 : (h558.1 96 8).toInt = (h523.1 96 8).toInt := by rw [g559, wI_at (by decide)]
                                    have s563 : (h558.1 96 12).toInt = (h523.1 96 12).toInt := by rw [g559, wI_at (by decide)]
                                    have s564 : (h558.1 96 13).toInt = (h523.1 96 13).toInt := by rw [g559, wI_at (by decide)]
                                    have s565 : (h558.1 96 9).toInt = (h523.1 96 9).toInt := by rw [g559, wI_at (by decide)]
                                    have s566 : (h558.1 96 11).toInt = (h523.1 96 11).toInt := by rw [g559, wI_at (by decide)]
                                    have s567 : (h558.1 96 10).toInt = 2 := by rw [g559, wI_is]; rfl
                                    refine R_goto 239 rfl rfl ?_
                                    exact R_vret rfl rfl ⟨hI, fr, ⟨by omega, by omega, by omega, by omega, trivial⟩, rfl⟩
                                  · exfalso; omega
                                · exfalso; omega
                                · exfalso; omega
                              · show RUN d_X9_advance 152 [(1, .inl x415), (0, .inr (.inr (.inl 96)))] [.inl x546] h523 _
                                refine N_i2l rfl (fun w568 q569 => ?_)
                                refine R_ldc2 (x := 48) rfl kt_9_159 ?_
                                refine R_ldc2 (x := 57) rfl kt_9_161 ?_
                                have k570 : (48 : Int64).toInt = 48 := by decide
                                have k571 : (57 : Int64).toInt = 57 := by decide
                                refine R_callS (As := [.inr (.inl w568), .inr (.inl 48), .inr (.inl 57)]) (rest := []) rfl mt_9_i125 (by decide) pp_X9_in (by decide) rfl rfl (Nat.le_of_ble_eq_true rfl) (Nat.le_of_ble_eq_true rfl) ((k_X9_in h523 hI w568 (48 : Int64) (57 : Int64)).mono (fun r572 h573 p574 => ?_))
                                obtain ⟨rfl, x575, rfl, q576 | q576 | q576⟩ := p574
                                · show RUN d_X9_advance 162 [(1, .inl x415), (0, .inr (.inr (.inl 96)))] [.inl x575] h523 _
                                  refine N_if_eq (a := x575.toInt) 206 rfl rfl rfl (fun c577 => ?_) (fun c577 => ?_)
                                  · refine R_aload_n (k := 0) rfl rfl rfl ?_
                                    refine R_iconst 2 rfl rfl ?_
                                    refine K_putf (j := 10) (lo := (-2147483648)) (hi' := 2147483647) rfl ft_9_152 sh_96 rfl hI (by decide) rfl (by decide) fr (by decide) (fun h578 g579 hI fr => ?_)
                                    have fl524 : FR [96] h512 h578 := by rw [g579]; exact FR_wI _ _ fl524 (by decide)
                                    have fl8 : FR [96] h h578 := by rw [g579]; exact FR_wI _ _ fl8 (by decide)
                                    have s580 : (h578.1 96 7).toInt = (h523.1 96 7).toInt := by rw [g579, wI_at (by decide)]
                                    have s581 : (h578.1 96 5).toInt = (h523.1 96 5).toInt := by rw [g579, wI_at (by decide)]
                                    have s582 : (h578.1 96 8).toInt = (h523.1 96 8).toInt := by rw [g579, wI_at (by decide)]
                                    have s583 : (h578.1 96 12).toInt = (h523.1 96 12).toInt := by rw [g579, wI_at (by decide)]
                                    have s584 : (h578.1 96 13).toInt = (h523.1 96 13).toInt := by rw [g579, wI_at (by decide)]
                                    have s585 : (h578.1 96 9).toInt = (h523.1 96 9).toInt := by rw [g579, wI_at (by decide)]
                                    have s586 : (h578.1 96 11).toInt = (h523.1 96 11).toInt := by rw [g579, wI_at (by decide)]
                                    have s587 : (h578.1 96 10).toInt = 2 := by rw [g579, wI_is]; rfl
                                    refine R_goto 239 rfl rfl ?_
                                    exact R_vret rfl rfl ⟨hI, fr, ⟨by omega, by omega, by omega, by omega, trivial⟩, rfl⟩
                                  · exfalso; omega
                                · show RUN d_X9_advance 162 [(1, .inl x415), (0, .inr (.inr (.inl 96)))] [.inl x575] h523 _
                                  refine N_if_eq (a := x575.toInt) 206 rfl rfl rfl (fun c588 => ?_) (fun c588 => ?_)
                                  · refine R_aload_n (k := 0) rfl rfl rfl ?_
                                    refine R_iconst 2 rfl rfl ?_
                                    refine K_putf (j := 10) (lo := (-2147483648)) (hi' := 2147483647) rfl ft_9_152 sh_96 rfl hI (by decide) rfl (by decide) fr (by decide) (fun h589 g590 hI fr => ?_)
                                    have fl524 : FR [96] h512 h589 := by rw [g590]; exact FR_wI _ _ fl524 (by decide)
                                    have fl8 : FR [96] h h589 := by rw [g590]; exact FR_wI _ _ fl8 (by decide)
                                    have s591 : (h589.1 96 7).toInt = (h523.1 96 7).toInt := by rw [g590, wI_at (by decide)]
                                    have s592 : (h589.1 96 5).toInt = (h523.1 96 5).toInt := by rw [g590, wI_at (by decide)]
                                    have s593 : (h589.1 96 8).toInt = (h523.1 96 8).toInt := by rw [g590, wI_at (by decide)]
                                    have s594 : (h589.1 96 12).toInt = (h523.1 96 12).toInt := by rw [g590, wI_at (by decide)]
                                    have s595 : (h589.1 96 13).toInt = (h523.1 96 13).toInt := by rw [g590, wI_at (by decide)]
                                    have s596 : (h589.1 96 9).toInt = (h523.1 96 9).toInt := by rw [g590, wI_at (by decide)]
                                    have s597 : (h589.1 96 11).toInt = (h523.1 96 11).toInt := by rw [g590, wI_at (by decide)]
                                    have s598 : (h589.1 96 10).toInt = 2 := by rw [g590, wI_is]; rfl
                                    refine R_goto 239 rfl rfl ?_
                                    exact R_vret rfl rfl ⟨hI, fr, ⟨by omega, by omega, by omega, by omega, trivial⟩, rfl⟩
                                  · exfalso; omega
                                · show RUN d_X9_advance 162 [(1, .inl x415), (0, .inr (.inr (.inl 96)))] [.inl x575] h523 _
                                  refine N_if_eq (a := x575.toInt) 206 rfl rfl rfl (fun c599 => ?_) (fun c599 => ?_)
                                  · exfalso; omega
                                  · refine R_aload_n (k := 0) rfl rfl rfl ?_
                                    refine R_ldc_i (x := 99999) rfl kt_9_166 ?_
                                    refine R_bipush 10 rfl rfl ?_
                                    refine R_aload_n (k := 0) rfl rfl rfl ?_
                                    refine R_getf_i (j := 11) rfl ft_9_163 sh_96 rfl ?_
                                    have b600 := i_rng (h523.1 96 11)
                                    refine R_imul rfl ?_
                                    refine N_any (fun x601 => ?_)
                                    refine R_aload_n (k := 0) rfl rfl rfl ?_
                                    refine R_aload_n (k := 0) rfl rfl rfl ?_
                                    refine R_getf_i (j := 8) rfl ft_9_142 sh_96 rfl ?_
                                    refine R_callV (v := .inr (.inr (.inl 96))) (As := [.inl (h523.1 96 8)]) (rest := [.inl x601, .inl 99999, .inr (.inr (.inl 96))]) rfl mt_9_i145 pp_X9_see (by decide) rfl rfl rfl (Nat.le_of_ble_eq_true rfl) (Nat.le_of_ble_eq_true rfl) ((k_X9_see h523 hI (h523.1 96 8) (by omega)).mono (fun r602 h603 p604 => ?_))
                                    obtain ⟨rfl, x605, rfl, q606 | q606⟩ := p604
                                    · show RUN d_X9_advance 183 [(1, .inl x415), (0, .inr (.inr (.inl 96)))] [.inl x605, .inl x601, .inl 99999, .inr (.inr (.inl 96))] h523 _
                                      have b607 := i_rng x601
                                      refine R_iadd rfl ?_
                                      refine N_any (fun x608 => ?_)
                                      refine R_bipush 48 rfl rfl ?_
                                      have b609 := i_rng x608
                                      refine R_isub rfl ?_
                                      refine N_any (fun x610 => ?_)
                                      refine N_min (a := 99999) (b := x610.toInt) rfl mt_9_i167 (by decide) rfl ⟨by decide, by decide, Nat.le_of_ble_eq_true rfl⟩ (fun x611 q612 => ?_)
                                      refine K_putf (j := 11) (lo := (-2147483648)) (hi' := 2147483647) rfl ft_9_163 sh_96 rfl hI (by decide) rfl (i_rng _) fr (by decide) (fun h613 g614 hI fr => ?_)
                                      have fl524 : FR [96] h512 h613 := by rw [g614]; exact FR_wI _ _ fl524 (by decide)
                                      have fl8 : FR [96] h h613 := by rw [g614]; exact FR_wI _ _ fl8 (by decide)
                                      have s615 : (h613.1 96 7).toInt = (h523.1 96 7).toInt := by rw [g614, wI_at (by decide)]
                                      have s616 : (h613.1 96 5).toInt = (h523.1 96 5).toInt := by rw [g614, wI_at (by decide)]
                                      have s617 : (h613.1 96 8).toInt = (h523.1 96 8).toInt := by rw [g614, wI_at (by decide)]
                                      have s618 : (h613.1 96 12).toInt = (h523.1 96 12).toInt := by rw [g614, wI_at (by decide)]
                                      have s619 : (h613.1 96 13).toInt = (h523.1 96 13).toInt := by rw [g614, wI_at (by decide)]
                                      have s620 : (h613.1 96 9).toInt = (h523.1 96 9).toInt := by rw [g614, wI_at (by decide)]
                                      have s621 : (h613.1 96 11).toInt = x611.toInt := by rw [g614, wI_is]
                                      refine R_aload_n (k := 0) rfl rfl rfl ?_
                                      refine R_dup_r rfl ?_
                                      refine R_getf_i (j := 8) rfl ft_9_142 sh_96 rfl ?_
                                      refine R_iconst 1 rfl rfl ?_
                                      refine N_iadd (a := (h613.1 96 8).toInt) (b := 1) rfl rfl (by decide) (by omega) (fun x622 q623 => ?_)
                                      refine K_putf (j := 8) (lo := 0) (hi' := 500) rfl ft_9_142 sh_96 rfl hI (by decide) rfl (by omega) fr (by decide) (fun h624 g625 hI fr => ?_)
                                      have fl524 : FR [96] h512 h624 := by rw [g625]; exact FR_wI _ _ fl524 (by decide)
                                      have fl8 : FR [96] h h624 := by rw [g625]; exact FR_wI _ _ fl8 (by decide)
                                      have s626 : (h624.1 96 7).toInt = (h613.1 96 7).toInt := by rw [g625, wI_at (by decide)]
                                      have s627 : (h624.1 96 5).toInt = (h613.1 96 5).toInt := by rw [g625, wI_at (by decide)]
                                      have s628 : (h624.1 96 12).toInt = (h613.1 96 12).toInt := by rw [g625, wI_at (by decide)]
                                      have s629 : (h624.1 96 13).toInt = (h613.1 96 13).toInt := by rw [g625, wI_at (by decide)]
                                      have s630 : (h624.1 96 9).toInt = (h613.1 96 9).toInt := by rw [g625, wI_at (by decide)]
                                      have s631 : (h624.1 96 11).toInt = (h613.1 96 11).toInt := by rw [g625, wI_at (by decide)]
                                      have s632 : (h624.1 96 8).toInt = x622.toInt := by rw [g625, wI_is]
                                      refine R_goto 144 rfl rfl ?_
                                      exact RUN_weak (psub_cons rfl (psub_cons rfl (psub_nil _))) (ih525 h624 hI fr fl524 (by omega) (by omega) (by omega) (by omega) (by omega) (by omega) (by omega) (by omega) (by omega) (by omega) (by omega) (by omega) (by omega) (by omega) (by omega))
                                    · show RUN d_X9_advance 183 [(1, .inl x415), (0, .inr (.inr (.inl 96)))] [.inl x605, .inl x601, .inl 99999, .inr (.inr (.inl 96))] h523 _
                                      have b633 := i_rng x601
                                      refine R_iadd rfl ?_
                                      refine N_any (fun x634 => ?_)
                                      refine R_bipush 48 rfl rfl ?_
                                      have b635 := i_rng x634
                                      refine R_isub rfl ?_
                                      refine N_any (fun x636 => ?_)
                                      refine N_min (a := 99999) (b := x636.toInt) rfl mt_9_i167 (by decide) rfl ⟨by decide, by decide, Nat.le_of_ble_eq_true rfl⟩ (fun x637 q638 => ?_)
                                      refine K_putf (j := 11) (lo := (-2147483648)) (hi' := 2147483647) rfl ft_9_163 sh_96 rfl hI (by decide) rfl (i_rng _) fr (by decide) (fun h639 g640 hI fr => ?_)
                                      have fl524 : FR [96] h512 h639 := by rw [g640]; exact FR_wI _ _ fl524 (by decide)
                                      have fl8 : FR [96] h h639 := by rw [g640]; exact FR_wI _ _ fl8 (by decide)
                                      have s641 : (h639.1 96 7).toInt = (h523.1 96 7).toInt := by rw [g640, wI_at (by decide)]
                                      have s642 : (h639.1 96 5).toInt = (h523.1 96 5).toInt := by rw [g640, wI_at (by decide)]
                                      have s643 : (h639.1 96 8).toInt = (h523.1 96 8).toInt := by rw [g640, wI_at (by decide)]
                                      have s644 : (h639.1 96 12).toInt = (h523.1 96 12).toInt := by rw [g640, wI_at (by decide)]
                                      have s645 : (h639.1 96 13).toInt = (h523.1 96 13).toInt := by rw [g640, wI_at (by decide)]
                                      have s646 : (h639.1 96 9).toInt = (h523.1 96 9).toInt := by rw [g640, wI_at (by decide)]
                                      have s647 : (h639.1 96 11).toInt = x637.toInt := by rw [g640, wI_is]
                                      refine R_aload_n (k := 0) rfl rfl rfl ?_
                                      refine R_dup_r rfl ?_
                                      refine R_getf_i (j := 8) rfl ft_9_142 sh_96 rfl ?_
                                      refine R_iconst 1 rfl rfl ?_
                                      refine N_iadd (a := (h639.1 96 8).toInt) (b := 1) rfl rfl (by decide) (by omega) (fun x648 q649 => ?_)
                                      refine K_putf (j := 8) (lo := 0) (hi' := 500) rfl ft_9_142 sh_96 rfl hI (by decide) rfl (by omega) fr (by decide) (fun h650 g651 hI fr => ?_)
                                      have fl524 : FR [96] h512 h650 := by rw [g651]; exact FR_wI _ _ fl524 (by decide)
                                      have fl8 : FR [96] h h650 := by rw [g651]; exact FR_wI _ _ fl8 (by decide)
                                      have s652 : (h650.1 96 7).toInt = (h639.1 96 7).toInt := by rw [g651, wI_at (by decide)]
                                      have s653 : (h650.1 96 5).toInt = (h639.1 96 5).toInt := by rw [g651, wI_at (by decide)]
                                      have s654 : (h650.1 96 12).toInt = (h639.1 96 12).toInt := by rw [g651, wI_at (by decide)]
                                      have s655 : (h650.1 96 13).toInt = (h639.1 96 13).toInt := by rw [g651, wI_at (by decide)]
                                      have s656 : (h650.1 96 9).toInt = (h639.1 96 9).toInt := by rw [g651, wI_at (by decide)]
                                      have s657 : (h650.1 96 11).toInt = (h639.1 96 11).toInt := by rw [g651, wI_at (by decide)]
                                      have s658 : (h650.1 96 8).toInt = x648.toInt := by rw [g651, wI_is]
                                      refine R_goto 144 rfl rfl ?_
                                      exact RUN_weak (psub_cons rfl (psub_cons rfl (psub_nil _))) (ih525 h650 hI fr fl524 (by omega) (by omega) (by omega) (by omega) (by omega) (by omega) (by omega) (by omega) (by omega) (by omega) (by omega) (by omega) (by omega) (by omega) (by omega))
                          exact lp522 _ h512 hI fr (FR.rf _ _) rfl rfl rfl rfl rfl (by omega) (by omega) (by omega) (by omega) (by omega) (by omega) (by omega) (by omega) (by omega) (Nat.lt_succ_self _)
                    · exfalso; omega
                  · show RUN d_X9_advance 80 [(1, .inl x415), (0, .inr (.inr (.inl 96)))] [.inl x435] h404 _
                    refine N_if_eq (a := x435.toInt) 125 rfl rfl rfl (fun c659 => ?_) (fun c659 => ?_)
                    · refine R_iload_n (k := 1) rfl rfl rfl ?_
                      refine N_i2l rfl (fun w660 q661 => ?_)
                      refine R_ldc2 (x := 48) rfl kt_9_159 ?_
                      refine R_ldc2 (x := 57) rfl kt_9_161 ?_
                      have k662 : (48 : Int64).toInt = 48 := by decide
                      have k663 : (57 : Int64).toInt = 57 := by decide
                      refine R_callS (As := [.inr (.inl w660), .inr (.inl 48), .inr (.inl 57)]) (rest := []) rfl mt_9_i125 (by decide) pp_X9_in (by decide) rfl rfl (Nat.le_of_ble_eq_true rfl) (Nat.le_of_ble_eq_true rfl) ((k_X9_in h404 hI w660 (48 : Int64) (57 : Int64)).mono (fun r664 h665 p666 => ?_))
                      obtain ⟨rfl, x667, rfl, q668 | q668 | q668⟩ := p666
                      · exfalso; omega
                      · show RUN d_X9_advance 136 [(1, .inl x415), (0, .inr (.inr (.inl 96)))] [.inl x667] h404 _
                        refine N_if_eq (a := x667.toInt) 214 rfl rfl rfl (fun c669 => ?_) (fun c669 => ?_)
                        · refine R_aload_n (k := 0) rfl rfl rfl ?_
                          refine R_iload_n (k := 1) rfl rfl rfl ?_
                          refine R_bipush 59 rfl rfl ?_
                          refine N_icmp_ne (a := x415.toInt) (b := 59) 225 rfl rfl rfl (by decide) (fun c670 => ?_) (fun c670 => ?_)
                          · refine R_iconst 4 rfl rfl ?_
                            refine K_putf (j := 10) (lo := (-2147483648)) (hi' := 2147483647) rfl ft_9_152 sh_96 rfl hI (by decide) rfl (by decide) fr (by decide) (fun h671 g672 hI fr => ?_)
                            have fl8 : FR [96] h h671 := by rw [g672]; exact FR_wI _ _ fl8 (by decide)
                            have s673 : (h671.1 96 7).toInt = (h404.1 96 7).toInt := by rw [g672, wI_at (by decide)]
                            have s674 : (h671.1 96 5).toInt = (h404.1 96 5).toInt := by rw [g672, wI_at (by decide)]
                            have s675 : (h671.1 96 8).toInt = (h404.1 96 8).toInt := by rw [g672, wI_at (by decide)]
                            have s676 : (h671.1 96 12).toInt = (h404.1 96 12).toInt := by rw [g672, wI_at (by decide)]
                            have s677 : (h671.1 96 13).toInt = (h404.1 96 13).toInt := by rw [g672, wI_at (by decide)]
                            have s678 : (h671.1 96 9).toInt = (h404.1 96 9).toInt := by rw [g672, wI_at (by decide)]
                            have s679 : (h671.1 96 10).toInt = 4 := by rw [g672, wI_is]; rfl
                            refine R_aload_n (k := 0) rfl rfl rfl ?_
                            refine R_dup_r rfl ?_
                            refine R_getf_i (j := 8) rfl ft_9_142 sh_96 rfl ?_
                            refine R_iconst 1 rfl rfl ?_
                            refine N_iadd (a := (h671.1 96 8).toInt) (b := 1) rfl rfl (by decide) (by omega) (fun x680 q681 => ?_)
                            refine K_putf (j := 8) (lo := 0) (hi' := 500) rfl ft_9_142 sh_96 rfl hI (by decide) rfl (by omega) fr (by decide) (fun h682 g683 hI fr => ?_)
                            have fl8 : FR [96] h h682 := by rw [g683]; exact FR_wI _ _ fl8 (by decide)
                            have s684 : (h682.1 96 7).toInt = (h671.1 96 7).toInt := by rw [g683, wI_at (by decide)]
                            have s685 : (h682.1 96 5).toInt = (h671.1 96 5).toInt := by rw [g683, wI_at (by decide)]
                            have s686 : (h682.1 96 12).toInt = (h671.1 96 12).toInt := by rw [g683, wI_at (by decide)]
                            have s687 : (h682.1 96 13).toInt = (h671.1 96 13).toInt := by rw [g683, wI_at (by decide)]
                            have s688 : (h682.1 96 9).toInt = (h671.1 96 9).toInt := by rw [g683, wI_at (by decide)]
                            have s689 : (h682.1 96 10).toInt = (h671.1 96 10).toInt := by rw [g683, wI_at (by decide)]
                            have s690 : (h682.1 96 8).toInt = x680.toInt := by rw [g683, wI_is]
                            exact R_vret rfl rfl ⟨hI, fr, ⟨by omega, by omega, by omega, by omega, trivial⟩, rfl⟩
                          · exfalso; omega
                        · exfalso; omega
                      · exfalso; omega
                    · exfalso; omega
                  · show RUN d_X9_advance 80 [(1, .inl x415), (0, .inr (.inr (.inl 96)))] [.inl x435] h404 _
                    refine N_if_eq (a := x435.toInt) 125 rfl rfl rfl (fun c691 => ?_) (fun c691 => ?_)
                    · exfalso; omega
                    · have lp693 : ∀ (n692 : Nat) (h694 : PH), INV h694 → FR [96] h h694 → FR [96] h404 h694 → (h694.1 96 7).toInt = (h404.1 96 7).toInt → (h694.1 96 5).toInt = (h404.1 96 5).toInt → (h694.1 96 12).toInt = (h404.1 96 12).toInt → (h694.1 96 13).toInt = (h404.1 96 13).toInt → (h694.1 96 9).toInt = (h404.1 96 9).toInt → 2 ≤ (h694.1 96 8).toInt ∧ (h694.1 96 8).toInt ≤ 492 → (h694.1 96 8).toInt ≤ x415.toInt + 391 → (h694.1 96 8).toInt ≤ (h404.1 96 7).toInt + (-3) → (h404.1 96 7).toInt ≤ (h694.1 96 8).toInt + (-2) → (h694.1 96 8).toInt ≤ (h404.1 96 5).toInt + 488 → (h694.1 96 8).toInt ≤ (h404.1 96 12).toInt + 488 → (h694.1 96 8).toInt ≤ (h404.1 96 9).toInt + (-3) → (h404.1 96 9).toInt ≤ (h694.1 96 8).toInt + (-3) → (492 - (h694.1 96 8).toInt).toNat < n692 → RUN d_X9_advance 83 [(1, .inl x415), (0, .inr (.inr (.inl 96)))] [] h694 (q_X9_advance h) := by
                        intro n692
                        induction n692 with
                        | zero => intro h694 m697 m698 m699 m700 m701 m702 m703 m704 m705 m706 m707 m708 m709 m710 m711 m712 hz; exact absurd hz (Nat.not_lt_zero _)
                        | succ n692 ih696 =>
                          intro h694 hI fr fl695 m700 m701 m702 m703 m704 m705 m706 m707 m708 m709 m710 m711 m712 hz
                          have fl8 : FR [96] h h694 := fl8.trans fl695 (by decide)
                          refine R_aload_n (k := 0) rfl rfl rfl ?_
                          refine R_aload_n (k := 0) rfl rfl rfl ?_
                          refine R_getf_i (j := 8) rfl ft_9_142 sh_96 rfl ?_
                          refine R_callV (v := .inr (.inr (.inl 96))) (As := [.inl (h694.1 96 8)]) (rest := []) rfl mt_9_i145 pp_X9_see (by decide) rfl rfl rfl (Nat.le_of_ble_eq_true rfl) (Nat.le_of_ble_eq_true rfl) ((k_X9_see h694 hI (h694.1 96 8) (by omega)).mono (fun r713 h714 p715 => ?_))
                          obtain ⟨rfl, x716, rfl, q717 | q717⟩ := p715
                          · show RUN d_X9_advance 91 [(1, .inl x415), (0, .inr (.inr (.inl 96)))] [.inl x716] h694 _
                            refine N_i2l rfl (fun w718 q719 => ?_)
                            refine R_ldc2 (x := 97) rfl kt_9_155 ?_
                            refine R_ldc2 (x := 122) rfl kt_9_157 ?_
                            have k720 : (97 : Int64).toInt = 97 := by decide
                            have k721 : (122 : Int64).toInt = 122 := by decide
                            refine R_callS (As := [.inr (.inl w718), .inr (.inl 97), .inr (.inl 122)]) (rest := []) rfl mt_9_i125 (by decide) pp_X9_in (by decide) rfl rfl (Nat.le_of_ble_eq_true rfl) (Nat.le_of_ble_eq_true rfl) ((k_X9_in h694 hI w718 (97 : Int64) (122 : Int64)).mono (fun r722 h723 p724 => ?_))
                            obtain ⟨rfl, x725, rfl, q726 | q726 | q726⟩ := p724
                            · show RUN d_X9_advance 101 [(1, .inl x415), (0, .inr (.inr (.inl 96)))] [.inl x725] h694 _
                              refine N_if_eq (a := x725.toInt) 117 rfl rfl rfl (fun c727 => ?_) (fun c727 => ?_)
                              · refine R_aload_n (k := 0) rfl rfl rfl ?_
                                refine R_iconst 1 rfl rfl ?_
                                refine K_putf (j := 10) (lo := (-2147483648)) (hi' := 2147483647) rfl ft_9_152 sh_96 rfl hI (by decide) rfl (by decide) fr (by decide) (fun h728 g729 hI fr => ?_)
                                have fl695 : FR [96] h404 h728 := by rw [g729]; exact FR_wI _ _ fl695 (by decide)
                                have fl8 : FR [96] h h728 := by rw [g729]; exact FR_wI _ _ fl8 (by decide)
                                have s730 : (h728.1 96 7).toInt = (h694.1 96 7).toInt := by rw [g729, wI_at (by decide)]
                                have s731 : (h728.1 96 5).toInt = (h694.1 96 5).toInt := by rw [g729, wI_at (by decide)]
                                have s732 : (h728.1 96 8).toInt = (h694.1 96 8).toInt := by rw [g729, wI_at (by decide)]
                                have s733 : (h728.1 96 12).toInt = (h694.1 96 12).toInt := by rw [g729, wI_at (by decide)]
                                have s734 : (h728.1 96 13).toInt = (h694.1 96 13).toInt := by rw [g729, wI_at (by decide)]
                                have s735 : (h728.1 96 9).toInt = (h694.1 96 9).toInt := by rw [g729, wI_at (by decide)]
                                have s736 : (h728.1 96 10).toInt = 1 := by rw [g729, wI_is]; rfl
                                refine R_goto 239 rfl rfl ?_
                                exact R_vret rfl rfl ⟨hI, fr, ⟨by omega, by omega, by omega, by omega, trivial⟩, rfl⟩
                              · exfalso; omega
                            · exfalso; omega
                            · exfalso; omega
                          · show RUN d_X9_advance 91 [(1, .inl x415), (0, .inr (.inr (.inl 96)))] [.inl x716] h694 _
                            refine N_i2l rfl (fun w737 q738 => ?_)
                            refine R_ldc2 (x := 97) rfl kt_9_155 ?_
                            refine R_ldc2 (x := 122) rfl kt_9_157 ?_
                            have k739 : (97 : Int64).toInt = 97 := by decide
                            have k740 : (122 : Int64).toInt = 122 := by decide
                            refine R_callS (As := [.inr (.inl w737), .inr (.inl 97), .inr (.inl 122)]) (rest := []) rfl mt_9_i125 (by decide) pp_X9_in (by decide) rfl rfl (Nat.le_of_ble_eq_true rfl) (Nat.le_of_ble_eq_true rfl) ((k_X9_in h694 hI w737 (97 : Int64) (122 : Int64)).mono (fun r741 h742 p743 => ?_))
                            obtain ⟨rfl, x744, rfl, q745 | q745 | q745⟩ := p743
                            · show RUN d_X9_advance 101 [(1, .inl x415), (0, .inr (.inr (.inl 96)))] [.inl x744] h694 _
                              refine N_if_eq (a := x744.toInt) 117 rfl rfl rfl (fun c746 => ?_) (fun c746 => ?_)
                              · refine R_aload_n (k := 0) rfl rfl rfl ?_
                                refine R_iconst 1 rfl rfl ?_
                                refine K_putf (j := 10) (lo := (-2147483648)) (hi' := 2147483647) rfl ft_9_152 sh_96 rfl hI (by decide) rfl (by decide) fr (by decide) (fun h747 g748 hI fr => ?_)
                                have fl695 : FR [96] h404 h747 := by rw [g748]; exact FR_wI _ _ fl695 (by decide)
                                have fl8 : FR [96] h h747 := by rw [g748]; exact FR_wI _ _ fl8 (by decide)
                                have s749 : (h747.1 96 7).toInt = (h694.1 96 7).toInt := by rw [g748, wI_at (by decide)]
                                have s750 : (h747.1 96 5).toInt = (h694.1 96 5).toInt := by rw [g748, wI_at (by decide)]
                                have s751 : (h747.1 96 8).toInt = (h694.1 96 8).toInt := by rw [g748, wI_at (by decide)]
                                have s752 : (h747.1 96 12).toInt = (h694.1 96 12).toInt := by rw [g748, wI_at (by decide)]
                                have s753 : (h747.1 96 13).toInt = (h694.1 96 13).toInt := by rw [g748, wI_at (by decide)]
                                have s754 : (h747.1 96 9).toInt = (h694.1 96 9).toInt := by rw [g748, wI_at (by decide)]
                                have s755 : (h747.1 96 10).toInt = 1 := by rw [g748, wI_is]; rfl
                                refine R_goto 239 rfl rfl ?_
                                exact R_vret rfl rfl ⟨hI, fr, ⟨by omega, by omega, by omega, by omega, trivial⟩, rfl⟩
                              · exfalso; omega
                            · show RUN d_X9_advance 101 [(1, .inl x415), (0, .inr (.inr (.inl 96)))] [.inl x744] h694 _
                              refine N_if_eq (a := x744.toInt) 117 rfl rfl rfl (fun c756 => ?_) (fun c756 => ?_)
                              · refine R_aload_n (k := 0) rfl rfl rfl ?_
                                refine R_iconst 1 rfl rfl ?_
                                refine K_putf (j := 10) (lo := (-2147483648)) (hi' := 2147483647) rfl ft_9_152 sh_96 rfl hI (by decide) rfl (by decide) fr (by decide) (fun h757 g758 hI fr => ?_)
                                have fl695 : FR [96] h404 h757 := by rw [g758]; exact FR_wI _ _ fl695 (by decide)
                                have fl8 : FR [96] h h757 := by rw [g758]; exact FR_wI _ _ fl8 (by decide)
                                have s759 : (h757.1 96 7).toInt = (h694.1 96 7).toInt := by rw [g758, wI_at (by decide)]
                                have s760 : (h757.1 96 5).toInt = (h694.1 96 5).toInt := by rw [g758, wI_at (by decide)]
                                have s761 : (h757.1 96 8).toInt = (h694.1 96 8).toInt := by rw [g758, wI_at (by decide)]
                                have s762 : (h757.1 96 12).toInt = (h694.1 96 12).toInt := by rw [g758, wI_at (by decide)]
                                have s763 : (h757.1 96 13).toInt = (h694.1 96 13).toInt := by rw [g758, wI_at (by decide)]
                                have s764 : (h757.1 96 9).toInt = (h694.1 96 9).toInt := by rw [g758, wI_at (by decide)]
                                have s765 : (h757.1 96 10).toInt = 1 := by rw [g758, wI_is]; rfl
                                refine R_goto 239 rfl rfl ?_
                                exact R_vret rfl rfl ⟨hI, fr, ⟨by omega, by omega, by omega, by omega, trivial⟩, rfl⟩
                              · exfalso; omega
                            · show RUN d_X9_advance 101 [(1, .inl x415), (0, .inr (.inr (.inl 96)))] [.inl x744] h694 _
                              refine N_if_eq (a := x744.toInt) 117 rfl rfl rfl (fun c766 => ?_) (fun c766 => ?_)
                              · exfalso; omega
                              · refine R_aload_n (k := 0) rfl rfl rfl ?_
                                refine R_dup_r rfl ?_
                                refine R_getf_i (j := 8) rfl ft_9_142 sh_96 rfl ?_
                                refine R_iconst 1 rfl rfl ?_
                                refine N_iadd (a := (h694.1 96 8).toInt) (b := 1) rfl rfl (by decide) (by omega) (fun x767 q768 => ?_)
                                refine K_putf (j := 8) (lo := 0) (hi' := 500) rfl ft_9_142 sh_96 rfl hI (by decide) rfl (by omega) fr (by decide) (fun h769 g770 hI fr => ?_)
                                have fl695 : FR [96] h404 h769 := by rw [g770]; exact FR_wI _ _ fl695 (by decide)
                                have fl8 : FR [96] h h769 := by rw [g770]; exact FR_wI _ _ fl8 (by decide)
                                have s771 : (h769.1 96 7).toInt = (h694.1 96 7).toInt := by rw [g770, wI_at (by decide)]
                                have s772 : (h769.1 96 5).toInt = (h694.1 96 5).toInt := by rw [g770, wI_at (by decide)]
                                have s773 : (h769.1 96 12).toInt = (h694.1 96 12).toInt := by rw [g770, wI_at (by decide)]
                                have s774 : (h769.1 96 13).toInt = (h694.1 96 13).toInt := by rw [g770, wI_at (by decide)]
                                have s775 : (h769.1 96 9).toInt = (h694.1 96 9).toInt := by rw [g770, wI_at (by decide)]
                                have s776 : (h769.1 96 8).toInt = x767.toInt := by rw [g770, wI_is]
                                refine R_goto 83 rfl rfl ?_
                                exact RUN_weak (psub_cons rfl (psub_cons rfl (psub_nil _))) (ih696 h769 hI fr fl695 (by omega) (by omega) (by omega) (by omega) (by omega) (by omega) (by omega) (by omega) (by omega) (by omega) (by omega) (by omega) (by omega) (by omega))
                      exact lp693 _ h404 hI fr (FR.rf _ _) rfl rfl rfl rfl rfl (by omega) (by omega) (by omega) (by omega) (by omega) (by omega) (by omega) (by omega) (Nat.lt_succ_self _)
                · exfalso; omega
            · refine R_aload_n (k := 0) rfl rfl rfl ?_
              refine R_dup_r rfl ?_
              refine R_getf_i (j := 8) rfl ft_9_142 sh_96 rfl ?_
              refine R_iconst 1 rfl rfl ?_
              refine N_iadd (a := (h7.1 96 8).toInt) (b := 1) rfl rfl (by decide) (by omega) (fun x777 q778 => ?_)
              refine K_putf (j := 8) (lo := 0) (hi' := 500) rfl ft_9_142 sh_96 rfl hI (by decide) rfl (by omega) fr (by decide) (fun h779 g780 hI fr => ?_)
              have fl8 : FR [96] h h779 := by rw [g780]; exact FR_wI _ _ fl8 (by decide)
              have s781 : (h779.1 96 7).toInt = (h7.1 96 7).toInt := by rw [g780, wI_at (by decide)]
              have s782 : (h779.1 96 5).toInt = (h7.1 96 5).toInt := by rw [g780, wI_at (by decide)]
              have s783 : (h779.1 96 12).toInt = (h7.1 96 12).toInt := by rw [g780, wI_at (by decide)]
              have s784 : (h779.1 96 13).toInt = (h7.1 96 13).toInt := by rw [g780, wI_at (by decide)]
              have s785 : (h779.1 96 8).toInt = x777.toInt := by rw [g780, wI_is]
              refine R_goto 0 rfl rfl ?_
              exact RUN_weak (psub_cons rfl (psub_nil _)) (ih9 h779 hI fr fl8 (by omega) (by omega) (by omega) (by omega) (by omega) (by omega))
      · show RUN d_X9_advance 8 [(0, .inr (.inr (.inl 96)))] [.inl x21] h7 _
        refine R_bipush 32 rfl rfl ?_
        refine N_icmp_eq (a := x21.toInt) (b := 32) 26 rfl rfl rfl (by decide) (fun c786 => ?_) (fun c786 => ?_)
        · refine R_aload_n (k := 0) rfl rfl rfl ?_
          refine R_dup_r rfl ?_
          refine R_getf_i (j := 8) rfl ft_9_142 sh_96 rfl ?_
          refine R_iconst 1 rfl rfl ?_
          refine N_iadd (a := (h7.1 96 8).toInt) (b := 1) rfl rfl (by decide) (by omega) (fun x787 q788 => ?_)
          refine K_putf (j := 8) (lo := 0) (hi' := 500) rfl ft_9_142 sh_96 rfl hI (by decide) rfl (by omega) fr (by decide) (fun h789 g790 hI fr => ?_)
          have fl8 : FR [96] h h789 := by rw [g790]; exact FR_wI _ _ fl8 (by decide)
          have s791 : (h789.1 96 7).toInt = (h7.1 96 7).toInt := by rw [g790, wI_at (by decide)]
          have s792 : (h789.1 96 5).toInt = (h7.1 96 5).toInt := by rw [g790, wI_at (by decide)]
          have s793 : (h789.1 96 12).toInt = (h7.1 96 12).toInt := by rw [g790, wI_at (by decide)]
          have s794 : (h789.1 96 13).toInt = (h7.1 96 13).toInt := by rw [g790, wI_at (by decide)]
          have s795 : (h789.1 96 8).toInt = x787.toInt := by rw [g790, wI_is]
          refine R_goto 0 rfl rfl ?_
          exact RUN_weak (psub_cons rfl (psub_nil _)) (ih9 h789 hI fr fl8 (by omega) (by omega) (by omega) (by omega) (by omega) (by omega))
        · refine R_aload_n (k := 0) rfl rfl rfl ?_
          refine R_aload_n (k := 0) rfl rfl rfl ?_
          refine R_getf_i (j := 8) rfl ft_9_142 sh_96 rfl ?_
          refine R_callV (v := .inr (.inr (.inl 96))) (As := [.inl (h7.1 96 8)]) (rest := []) rfl mt_9_i145 pp_X9_see (by decide) rfl rfl rfl (Nat.le_of_ble_eq_true rfl) (Nat.le_of_ble_eq_true rfl) ((k_X9_see h7 hI (h7.1 96 8) (by omega)).mono (fun r796 h797 p798 => ?_))
          obtain ⟨rfl, x799, rfl, q800 | q800⟩ := p798
          · show RUN d_X9_advance 21 [(0, .inr (.inr (.inl 96)))] [.inl x799] h7 _
            refine R_bipush 10 rfl rfl ?_
            refine N_icmp_ne (a := x799.toInt) (b := 10) 39 rfl rfl rfl (by decide) (fun c801 => ?_) (fun c801 => ?_)
            · refine R_aload_n (k := 0) rfl rfl rfl ?_
              refine R_aload_n (k := 0) rfl rfl rfl ?_
              refine R_getf_i (j := 8) rfl ft_9_142 sh_96 rfl ?_
              refine K_putf (j := 9) (lo := 0) (hi' := 500) rfl ft_9_149 sh_96 rfl hI (by decide) rfl (by omega) fr (by decide) (fun h802 g803 hI fr => ?_)
              have fl8 : FR [96] h h802 := by rw [g803]; exact FR_wI _ _ fl8 (by decide)
              have s804 : (h802.1 96 7).toInt = (h7.1 96 7).toInt := by rw [g803, wI_at (by decide)]
              have s805 : (h802.1 96 5).toInt = (h7.1 96 5).toInt := by rw [g803, wI_at (by decide)]
              have s806 : (h802.1 96 8).toInt = (h7.1 96 8).toInt := by rw [g803, wI_at (by decide)]
              have s807 : (h802.1 96 12).toInt = (h7.1 96 12).toInt := by rw [g803, wI_at (by decide)]
              have s808 : (h802.1 96 13).toInt = (h7.1 96 13).toInt := by rw [g803, wI_at (by decide)]
              have s809 : (h802.1 96 9).toInt = (h7.1 96 8).toInt := by rw [g803, wI_is]
              refine R_aload_n (k := 0) rfl rfl rfl ?_
              refine R_aload_n (k := 0) rfl rfl rfl ?_
              refine R_getf_i (j := 8) rfl ft_9_142 sh_96 rfl ?_
              refine R_callV (v := .inr (.inr (.inl 96))) (As := [.inl (h802.1 96 8)]) (rest := []) rfl mt_9_i145 pp_X9_see (by decide) rfl rfl rfl (Nat.le_of_ble_eq_true rfl) (Nat.le_of_ble_eq_true rfl) ((k_X9_see h802 hI (h802.1 96 8) (by omega)).mono (fun r810 h811 p812 => ?_))
              obtain ⟨rfl, x813, rfl, q814 | q814⟩ := p812
              · show RUN d_X9_advance 55 [(0, .inr (.inr (.inl 96)))] [.inl x813] h802 _
                refine R_istore_n (k := 1) rfl [(1, .inl x813), (0, .inr (.inr (.inl 96)))] rfl rfl (by decide) ?_
                refine R_iload_n (k := 1) rfl rfl rfl ?_
                refine R_iconst (-1) rfl rfl ?_
                refine N_icmp_ne (a := x813.toInt) (b := (-1)) 69 rfl rfl rfl (by decide) (fun c815 => ?_) (fun c815 => ?_)
                · exfalso; omega
                · refine R_aload_n (k := 0) rfl rfl rfl ?_
                  refine R_iconst 0 rfl rfl ?_
                  refine K_putf (j := 10) (lo := (-2147483648)) (hi' := 2147483647) rfl ft_9_152 sh_96 rfl hI (by decide) rfl (by decide) fr (by decide) (fun h816 g817 hI fr => ?_)
                  have fl8 : FR [96] h h816 := by rw [g817]; exact FR_wI _ _ fl8 (by decide)
                  have s818 : (h816.1 96 7).toInt = (h802.1 96 7).toInt := by rw [g817, wI_at (by decide)]
                  have s819 : (h816.1 96 5).toInt = (h802.1 96 5).toInt := by rw [g817, wI_at (by decide)]
                  have s820 : (h816.1 96 8).toInt = (h802.1 96 8).toInt := by rw [g817, wI_at (by decide)]
                  have s821 : (h816.1 96 12).toInt = (h802.1 96 12).toInt := by rw [g817, wI_at (by decide)]
                  have s822 : (h816.1 96 13).toInt = (h802.1 96 13).toInt := by rw [g817, wI_at (by decide)]
                  have s823 : (h816.1 96 9).toInt = (h802.1 96 9).toInt := by rw [g817, wI_at (by decide)]
                  have s824 : (h816.1 96 10).toInt = 0 := by rw [g817, wI_is]; rfl
                  refine R_goto 239 rfl rfl ?_
                  exact R_vret rfl rfl ⟨hI, fr, ⟨by omega, by omega, by omega, by omega, trivial⟩, rfl⟩
              · show RUN d_X9_advance 55 [(0, .inr (.inr (.inl 96)))] [.inl x813] h802 _
                refine R_istore_n (k := 1) rfl [(1, .inl x813), (0, .inr (.inr (.inl 96)))] rfl rfl (by decide) ?_
                refine R_iload_n (k := 1) rfl rfl rfl ?_
                refine R_iconst (-1) rfl rfl ?_
                refine N_icmp_ne (a := x813.toInt) (b := (-1)) 69 rfl rfl rfl (by decide) (fun c825 => ?_) (fun c825 => ?_)
                · refine R_iload_n (k := 1) rfl rfl rfl ?_
                  refine N_i2l rfl (fun w826 q827 => ?_)
                  refine R_ldc2 (x := 97) rfl kt_9_155 ?_
                  refine R_ldc2 (x := 122) rfl kt_9_157 ?_
                  have k828 : (97 : Int64).toInt = 97 := by decide
                  have k829 : (122 : Int64).toInt = 122 := by decide
                  refine R_callS (As := [.inr (.inl w826), .inr (.inl 97), .inr (.inl 122)]) (rest := []) rfl mt_9_i125 (by decide) pp_X9_in (by decide) rfl rfl (Nat.le_of_ble_eq_true rfl) (Nat.le_of_ble_eq_true rfl) ((k_X9_in h802 hI w826 (97 : Int64) (122 : Int64)).mono (fun r830 h831 p832 => ?_))
                  obtain ⟨rfl, x833, rfl, q834 | q834 | q834⟩ := p832
                  · show RUN d_X9_advance 80 [(1, .inl x813), (0, .inr (.inr (.inl 96)))] [.inl x833] h802 _
                    refine N_if_eq (a := x833.toInt) 125 rfl rfl rfl (fun c835 => ?_) (fun c835 => ?_)
                    · refine R_iload_n (k := 1) rfl rfl rfl ?_
                      refine N_i2l rfl (fun w836 q837 => ?_)
                      refine R_ldc2 (x := 48) rfl kt_9_159 ?_
                      refine R_ldc2 (x := 57) rfl kt_9_161 ?_
                      have k838 : (48 : Int64).toInt = 48 := by decide
                      have k839 : (57 : Int64).toInt = 57 := by decide
                      refine R_callS (As := [.inr (.inl w836), .inr (.inl 48), .inr (.inl 57)]) (rest := []) rfl mt_9_i125 (by decide) pp_X9_in (by decide) rfl rfl (Nat.le_of_ble_eq_true rfl) (Nat.le_of_ble_eq_true rfl) ((k_X9_in h802 hI w836 (48 : Int64) (57 : Int64)).mono (fun r840 h841 p842 => ?_))
                      obtain ⟨rfl, x843, rfl, q844 | q844 | q844⟩ := p842
                      · show RUN d_X9_advance 136 [(1, .inl x813), (0, .inr (.inr (.inl 96)))] [.inl x843] h802 _
                        refine N_if_eq (a := x843.toInt) 214 rfl rfl rfl (fun c845 => ?_) (fun c845 => ?_)
                        · refine R_aload_n (k := 0) rfl rfl rfl ?_
                          refine R_iload_n (k := 1) rfl rfl rfl ?_
                          refine R_bipush 59 rfl rfl ?_
                          refine N_icmp_ne (a := x813.toInt) (b := 59) 225 rfl rfl rfl (by decide) (fun c846 => ?_) (fun c846 => ?_)
                          · refine R_iconst 4 rfl rfl ?_
                            refine K_putf (j := 10) (lo := (-2147483648)) (hi' := 2147483647) rfl ft_9_152 sh_96 rfl hI (by decide) rfl (by decide) fr (by decide) (fun h847 g848 hI fr => ?_)
                            have fl8 : FR [96] h h847 := by rw [g848]; exact FR_wI _ _ fl8 (by decide)
                            have s849 : (h847.1 96 7).toInt = (h802.1 96 7).toInt := by rw [g848, wI_at (by decide)]
                            have s850 : (h847.1 96 5).toInt = (h802.1 96 5).toInt := by rw [g848, wI_at (by decide)]
                            have s851 : (h847.1 96 8).toInt = (h802.1 96 8).toInt := by rw [g848, wI_at (by decide)]
                            have s852 : (h847.1 96 12).toInt = (h802.1 96 12).toInt := by rw [g848, wI_at (by decide)]
                            have s853 : (h847.1 96 13).toInt = (h802.1 96 13).toInt := by rw [g848, wI_at (by decide)]
                            have s854 : (h847.1 96 9).toInt = (h802.1 96 9).toInt := by rw [g848, wI_at (by decide)]
                            have s855 : (h847.1 96 10).toInt = 4 := by rw [g848, wI_is]; rfl
                            refine R_aload_n (k := 0) rfl rfl rfl ?_
                            refine R_dup_r rfl ?_
                            refine R_getf_i (j := 8) rfl ft_9_142 sh_96 rfl ?_
                            refine R_iconst 1 rfl rfl ?_
                            refine N_iadd (a := (h847.1 96 8).toInt) (b := 1) rfl rfl (by decide) (by omega) (fun x856 q857 => ?_)
                            refine K_putf (j := 8) (lo := 0) (hi' := 500) rfl ft_9_142 sh_96 rfl hI (by decide) rfl (by omega) fr (by decide) (fun h858 g859 hI fr => ?_)
                            have fl8 : FR [96] h h858 := by rw [g859]; exact FR_wI _ _ fl8 (by decide)
                            have s860 : (h858.1 96 7).toInt = (h847.1 96 7).toInt := by rw [g859, wI_at (by decide)]
                            have s861 : (h858.1 96 5).toInt = (h847.1 96 5).toInt := by rw [g859, wI_at (by decide)]
                            have s862 : (h858.1 96 12).toInt = (h847.1 96 12).toInt := by rw [g859, wI_at (by decide)]
                            have s863 : (h858.1 96 13).toInt = (h847.1 96 13).toInt := by rw [g859, wI_at (by decide)]
                            have s864 : (h858.1 96 9).toInt = (h847.1 96 9).toInt := by rw [g859, wI_at (by decide)]
                            have s865 : (h858.1 96 10).toInt = (h847.1 96 10).toInt := by rw [g859, wI_at (by decide)]
                            have s866 : (h858.1 96 8).toInt = x856.toInt := by rw [g859, wI_is]
                            exact R_vret rfl rfl ⟨hI, fr, ⟨by omega, by omega, by omega, by omega, trivial⟩, rfl⟩
                          · exfalso; omega
                        · exfalso; omega
                      · show RUN d_X9_advance 136 [(1, .inl x813), (0, .inr (.inr (.inl 96)))] [.inl x843] h802 _
                        refine N_if_eq (a := x843.toInt) 214 rfl rfl rfl (fun c867 => ?_) (fun c867 => ?_)
                        · refine R_aload_n (k := 0) rfl rfl rfl ?_
                          refine R_iload_n (k := 1) rfl rfl rfl ?_
                          refine R_bipush 59 rfl rfl ?_
                          refine N_icmp_ne (a := x813.toInt) (b := 59) 225 rfl rfl rfl (by decide) (fun c868 => ?_) (fun c868 => ?_)
                          · refine R_iconst 4 rfl rfl ?_
                            refine K_putf (j := 10) (lo := (-2147483648)) (hi' := 2147483647) rfl ft_9_152 sh_96 rfl hI (by decide) rfl (by decide) fr (by decide) (fun h869 g870 hI fr => ?_)
                            have fl8 : FR [96] h h869 := by rw [g870]; exact FR_wI _ _ fl8 (by decide)
                            have s871 : (h869.1 96 7).toInt = (h802.1 96 7).toInt := by rw [g870, wI_at (by decide)]
                            have s872 : (h869.1 96 5).toInt = (h802.1 96 5).toInt := by rw [g870, wI_at (by decide)]
                            have s873 : (h869.1 96 8).toInt = (h802.1 96 8).toInt := by rw [g870, wI_at (by decide)]
                            have s874 : (h869.1 96 12).toInt = (h802.1 96 12).toInt := by rw [g870, wI_at (by decide)]
                            have s875 : (h869.1 96 13).toInt = (h802.1 96 13).toInt := by rw [g870, wI_at (by decide)]
                            have s876 : (h869.1 96 9).toInt = (h802.1 96 9).toInt := by rw [g870, wI_at (by decide)]
                            have s877 : (h869.1 96 10).toInt = 4 := by rw [g870, wI_is]; rfl
                            refine R_aload_n (k := 0) rfl rfl rfl ?_
                            refine R_dup_r rfl ?_
                            refine R_getf_i (j := 8) rfl ft_9_142 sh_96 rfl ?_
                            refine R_iconst 1 rfl rfl ?_
                            refine N_iadd (a := (h869.1 96 8).toInt) (b := 1) rfl rfl (by decide) (by omega) (fun x878 q879 => ?_)
                            refine K_putf (j := 8) (lo := 0) (hi' := 500) rfl ft_9_142 sh_96 rfl hI (by decide) rfl (by omega) fr (by decide) (fun h880 g881 hI fr => ?_)
                            have fl8 : FR [96] h h880 := by rw [g881]; exact FR_wI _ _ fl8 (by decide)
                            have s882 : (h880.1 96 7).toInt = (h869.1 96 7).toInt := by rw [g881, wI_at (by decide)]
                            have s883 : (h880.1 96 5).toInt = (h869.1 96 5).toInt := by rw [g881, wI_at (by decide)]
                            have s884 : (h880.1 96 12).toInt = (h869.1 96 12).toInt := by rw [g881, wI_at (by decide)]
                            have s885 : (h880.1 96 13).toInt = (h869.1 96 13).toInt := by rw [g881, wI_at (by decide)]
                            have s886 : (h880.1 96 9).toInt = (h869.1 96 9).toInt := by rw [g881, wI_at (by decide)]
                            have s887 : (h880.1 96 10).toInt = (h869.1 96 10).toInt := by rw [g881, wI_at (by decide)]
                            have s888 : (h880.1 96 8).toInt = x878.toInt := by rw [g881, wI_is]
                            exact R_vret rfl rfl ⟨hI, fr, ⟨by omega, by omega, by omega, by omega, trivial⟩, rfl⟩
                          · refine R_iconst 3 rfl rfl ?_
                            refine R_goto 226 rfl rfl ?_
                            refine K_putf (j := 10) (lo := (-2147483648)) (hi' := 2147483647) rfl ft_9_152 sh_96 rfl hI (by decide) rfl (by decide) fr (by decide) (fun h889 g890 hI fr => ?_)
                            have fl8 : FR [96] h h889 := by rw [g890]; exact FR_wI _ _ fl8 (by decide)
                            have s891 : (h889.1 96 7).toInt = (h802.1 96 7).toInt := by rw [g890, wI_at (by decide)]
                            have s892 : (h889.1 96 5).toInt = (h802.1 96 5).toInt := by rw [g890, wI_at (by decide)]
                            have s893 : (h889.1 96 8).toInt = (h802.1 96 8).toInt := by rw [g890, wI_at (by decide)]
                            have s894 : (h889.1 96 12).toInt = (h802.1 96 12).toInt := by rw [g890, wI_at (by decide)]
                            have s895 : (h889.1 96 13).toInt = (h802.1 96 13).toInt := by rw [g890, wI_at (by decide)]
                            have s896 : (h889.1 96 9).toInt = (h802.1 96 9).toInt := by rw [g890, wI_at (by decide)]
                            have s897 : (h889.1 96 10).toInt = 3 := by rw [g890, wI_is]; rfl
                            refine R_aload_n (k := 0) rfl rfl rfl ?_
                            refine R_dup_r rfl ?_
                            refine R_getf_i (j := 8) rfl ft_9_142 sh_96 rfl ?_
                            refine R_iconst 1 rfl rfl ?_
                            refine N_iadd (a := (h889.1 96 8).toInt) (b := 1) rfl rfl (by decide) (by omega) (fun x898 q899 => ?_)
                            refine K_putf (j := 8) (lo := 0) (hi' := 500) rfl ft_9_142 sh_96 rfl hI (by decide) rfl (by omega) fr (by decide) (fun h900 g901 hI fr => ?_)
                            have fl8 : FR [96] h h900 := by rw [g901]; exact FR_wI _ _ fl8 (by decide)
                            have s902 : (h900.1 96 7).toInt = (h889.1 96 7).toInt := by rw [g901, wI_at (by decide)]
                            have s903 : (h900.1 96 5).toInt = (h889.1 96 5).toInt := by rw [g901, wI_at (by decide)]
                            have s904 : (h900.1 96 12).toInt = (h889.1 96 12).toInt := by rw [g901, wI_at (by decide)]
                            have s905 : (h900.1 96 13).toInt = (h889.1 96 13).toInt := by rw [g901, wI_at (by decide)]
                            have s906 : (h900.1 96 9).toInt = (h889.1 96 9).toInt := by rw [g901, wI_at (by decide)]
                            have s907 : (h900.1 96 10).toInt = (h889.1 96 10).toInt := by rw [g901, wI_at (by decide)]
                            have s908 : (h900.1 96 8).toInt = x898.toInt := by rw [g901, wI_is]
                            exact R_vret rfl rfl ⟨hI, fr, ⟨by omega, by omega, by omega, by omega, trivial⟩, rfl⟩
                        · exfalso; omega
                      · show RUN d_X9_advance 136 [(1, .inl x813), (0, .inr (.inr (.inl 96)))] [.inl x843] h802 _
                        refine N_if_eq (a := x843.toInt) 214 rfl rfl rfl (fun c909 => ?_) (fun c909 => ?_)
                        · exfalso; omega
                        · refine R_aload_n (k := 0) rfl rfl rfl ?_
                          refine R_iconst 0 rfl rfl ?_
                          refine K_putf (j := 11) (lo := (-2147483648)) (hi' := 2147483647) rfl ft_9_163 sh_96 rfl hI (by decide) rfl (by decide) fr (by decide) (fun h910 g911 hI fr => ?_)
                          have fl8 : FR [96] h h910 := by rw [g911]; exact FR_wI _ _ fl8 (by decide)
                          have s912 : (h910.1 96 7).toInt = (h802.1 96 7).toInt := by rw [g911, wI_at (by decide)]
                          have s913 : (h910.1 96 5).toInt = (h802.1 96 5).toInt := by rw [g911, wI_at (by decide)]
                          have s914 : (h910.1 96 8).toInt = (h802.1 96 8).toInt := by rw [g911, wI_at (by decide)]
                          have s915 : (h910.1 96 12).toInt = (h802.1 96 12).toInt := by rw [g911, wI_at (by decide)]
                          have s916 : (h910.1 96 13).toInt = (h802.1 96 13).toInt := by rw [g911, wI_at (by decide)]
                          have s917 : (h910.1 96 9).toInt = (h802.1 96 9).toInt := by rw [g911, wI_at (by decide)]
                          have s918 : (h910.1 96 11).toInt = 0 := by rw [g911, wI_is]; rfl
                          have lp920 : ∀ (n919 : Nat) (h921 : PH), INV h921 → FR [96] h h921 → FR [96] h910 h921 → (h921.1 96 7).toInt = (h910.1 96 7).toInt → (h921.1 96 5).toInt = (h910.1 96 5).toInt → (h921.1 96 12).toInt = (h910.1 96 12).toInt → (h921.1 96 13).toInt = (h910.1 96 13).toInt → (h921.1 96 9).toInt = (h910.1 96 9).toInt → 1 ≤ (h921.1 96 8).toInt ∧ (h921.1 96 8).toInt ≤ 498 → (h921.1 96 11).toInt ≤ 99999 → (h921.1 96 8).toInt ≤ x813.toInt + 447 → (h921.1 96 8).toInt ≤ (h910.1 96 7).toInt + (-2) → (h910.1 96 7).toInt ≤ (h921.1 96 8).toInt + (-1) → (h921.1 96 8).toInt ≤ (h910.1 96 5).toInt + 495 → (h921.1 96 8).toInt ≤ (h910.1 96 12).toInt + 495 → (h921.1 96 8).toInt ≤ (h910.1 96 9).toInt + (-2) → (h910.1 96 9).toInt ≤ (h921.1 96 8).toInt + (-2) → (498 - (h921.1 96 8).toInt).toNat < n919 → RUN d_X9_advance 144 [(1, .inl x813), (0, .inr (.inr (.inl 96)))] [] h921 (q_X9_advance h) := by
                            intro n919
                            induction n919 with
                            | zero => intro h921 m924 m925 m926 m927 m928 m929 m930 m931 m932 m933 m934 m935 m936 m937 m938 m939 m940 hz; exact absurd hz (Nat.not_lt_zero _)
                            | succ n919 ih923 =>
                              intro h921 hI fr fl922 m927 m928 m929 m930 m931 m932 m933 m934 m935 m936 m937 m938 m939 m940 hz
                              have fl8 : FR [96] h h921 := fl8.trans fl922 (by decide)
                              refine R_aload_n (k := 0) rfl rfl rfl ?_
                              refine R_aload_n (k := 0) rfl rfl rfl ?_
                              refine R_getf_i (j := 8) rfl ft_9_142 sh_96 rfl ?_
                              refine R_callV (v := .inr (.inr (.inl 96))) (As := [.inl (h921.1 96 8)]) (rest := []) rfl mt_9_i145 pp_X9_see (by decide) rfl rfl rfl (Nat.le_of_ble_eq_true rfl) (Nat.le_of_ble_eq_true rfl) ((k_X9_see h921 hI (h921.1 96 8) (by omega)).mono (fun r941 h942 p943 => ?_))
                              obtain ⟨rfl, x944, rfl, q945 | q945⟩ := p943
                              · show RUN d_X9_advance 152 [(1, .inl x813), (0, .inr (.inr (.inl 96)))] [.inl x944] h921 _
                                refine N_i2l rfl (fun w946 q947 => ?_)
                                refine R_ldc2 (x := 48) rfl kt_9_159 ?_
                                refine R_ldc2 (x := 57) rfl kt_9_161 ?_
                                have k948 : (48 : Int64).toInt = 48 := by decide
                                have k949 : (57 : Int64).toInt = 57 := by decide
                                refine R_callS (As := [.inr (.inl w946), .inr (.inl 48), .inr (.inl 57)]) (rest := []) rfl mt_9_i125 (by decide) pp_X9_in (by decide) rfl rfl (Nat.le_of_ble_eq_true rfl) (Nat.le_of_ble_eq_true rfl) ((k_X9_in h921 hI w946 (48 : Int64) (57 : Int64)).mono (fun r950 h951 p952 => ?_))
                                obtain ⟨rfl, x953, rfl, q954 | q954 | q954⟩ := p952
                                · show RUN d_X9_advance 162 [(1, .inl x813), (0, .inr (.inr (.inl 96)))] [.inl x953] h921 _
                                  refine N_if_eq (a := x953.toInt) 206 rfl rfl rfl (fun c955 => ?_) (fun c955 => ?_)
                                  · refine R_aload_n (k := 0) rfl rfl rfl ?_
                                    refine R_iconst 2 rfl rfl ?_
                                    refine K_putf (j := 10) (lo := (-2147483648)) (hi' := 2147483647) rfl ft_9_152 sh_96 rfl hI (by decide) rfl (by decide) fr (by decide) (fun h956 g957 hI fr => ?_)
                                    have fl922 : FR [96] h910 h956 := by rw [g957]; exact FR_wI _ _ fl922 (by decide)
                                    have fl8 : FR [96] h h956 := by rw [g957]; exact FR_wI _ _ fl8 (by decide)
                                    have s958 : (h956.1 96 7).toInt = (h921.1 96 7).toInt := by rw [g957, wI_at (by decide)]
                                    have s959 : (h956.1 96 5).toInt = (h921.1 96 5).toInt := by rw [g957, wI_at (by decide)]
                                    have s960 : (h956.1 96 8).toInt = (h921.1 96 8).toInt := by rw [g957, wI_at (by decide)]
                                    have s961 : (h956.1 96 12).toInt = (h921.1 96 12).toInt := by rw [g957, wI_at (by decide)]
                                    have s962 : (h956.1 96 13).toInt = (h921.1 96 13).toInt := by rw [g957, wI_at (by decide)]
                                    have s963 : (h956.1 96 9).toInt = (h921.1 96 9).toInt := by rw [g957, wI_at (by decide)]
                                    have s964 : (h956.1 96 11).toInt = (h921.1 96 11).toInt := by rw [g957, wI_at (by decide)]
                                    have s965 : (h956.1 96 10).toInt = 2 := by rw [g957, wI_is]; rfl
                                    refine R_goto 239 rfl rfl ?_
                                    exact R_vret rfl rfl ⟨hI, fr, ⟨by omega, by omega, by omega, by omega, trivial⟩, rfl⟩
                                  · exfalso; omega
                                · exfalso; omega
                                · exfalso; omega
                              · show RUN d_X9_advance 152 [(1, .inl x813), (0, .inr (.inr (.inl 96)))] [.inl x944] h921 _
                                refine N_i2l rfl (fun w966 q967 => ?_)
                                refine R_ldc2 (x := 48) rfl kt_9_159 ?_
                                refine R_ldc2 (x := 57) rfl kt_9_161 ?_
                                have k968 : (48 : Int64).toInt = 48 := by decide
                                have k969 : (57 : Int64).toInt = 57 := by decide
                                refine R_callS (As := [.inr (.inl w966), .inr (.inl 48), .inr (.inl 57)]) (rest := []) rfl mt_9_i125 (by decide) pp_X9_in (by decide) rfl rfl (Nat.le_of_ble_eq_true rfl) (Nat.le_of_ble_eq_true rfl) ((k_X9_in h921 hI w966 (48 : Int64) (57 : Int64)).mono (fun r970 h971 p972 => ?_))
                                obtain ⟨rfl, x973, rfl, q974 | q974 | q974⟩ := p972
                                · show RUN d_X9_advance 162 [(1, .inl x813), (0, .inr (.inr (.inl 96)))] [.inl x973] h921 _
                                  refine N_if_eq (a := x973.toInt) 206 rfl rfl rfl (fun c975 => ?_) (fun c975 => ?_)
                                  · refine R_aload_n (k := 0) rfl rfl rfl ?_
                                    refine R_iconst 2 rfl rfl ?_
                                    refine K_putf (j := 10) (lo := (-2147483648)) (hi' := 2147483647) rfl ft_9_152 sh_96 rfl hI (by decide) rfl (by decide) fr (by decide) (fun h976 g977 hI fr => ?_)
                                    have fl922 : FR [96] h910 h976 := by rw [g977]; exact FR_wI _ _ fl922 (by decide)
                                    have fl8 : FR [96] h h976 := by rw [g977]; exact FR_wI _ _ fl8 (by decide)
                                    have s978 : (h976.1 96 7).toInt = (h921.1 96 7).toInt := by rw [g977, wI_at (by decide)]
                                    have s979 : (h976.1 96 5).toInt = (h921.1 96 5).toInt := by rw [g977, wI_at (by decide)]
                                    have s980 : (h976.1 96 8).toInt = (h921.1 96 8).toInt := by rw [g977, wI_at (by decide)]
                                    have s981 : (h976.1 96 12).toInt = (h921.1 96 12).toInt := by rw [g977, wI_at (by decide)]
                                    have s982 : (h976.1 96 13).toInt = (h921.1 96 13).toInt := by rw [g977, wI_at (by decide)]
                                    have s983 : (h976.1 96 9).toInt = (h921.1 96 9).toInt := by rw [g977, wI_at (by decide)]
                                    have s984 : (h976.1 96 11).toInt = (h921.1 96 11).toInt := by rw [g977, wI_at (by decide)]
                                    have s985 : (h976.1 96 10).toInt = 2 := by rw [g977, wI_is]; rfl
                                    refine R_goto 239 rfl rfl ?_
                                    exact R_vret rfl rfl ⟨hI, fr, ⟨by omega, by omega, by omega, by omega, trivial⟩, rfl⟩
                                  · exfalso; omega
                                · show RUN d_X9_advance 162 [(1, .inl x813), (0, .inr (.inr (.inl 96)))] [.inl x973] h921 _
                                  refine N_if_eq (a := x973.toInt) 206 rfl rfl rfl (fun c986 => ?_) (fun c986 => ?_)
                                  · refine R_aload_n (k := 0) rfl rfl rfl ?_
                                    refine R_iconst 2 rfl rfl ?_
                                    refine K_putf (j := 10) (lo := (-2147483648)) (hi' := 2147483647) rfl ft_9_152 sh_96 rfl hI (by decide) rfl (by decide) fr (by decide) (fun h987 g988 hI fr => ?_)
                                    have fl922 : FR [96] h910 h987 := by rw [g988]; exact FR_wI _ _ fl922 (by decide)
                                    have fl8 : FR [96] h h987 := by rw [g988]; exact FR_wI _ _ fl8 (by decide)
                                    have s989 : (h987.1 96 7).toInt = (h921.1 96 7).toInt := by rw [g988, wI_at (by decide)]
                                    have s990 : (h987.1 96 5).toInt = (h921.1 96 5).toInt := by rw [g988, wI_at (by decide)]
                                    have s991 : (h987.1 96 8).toInt = (h921.1 96 8).toInt := by rw [g988, wI_at (by decide)]
                                    have s992 : (h987.1 96 12).toInt = (h921.1 96 12).toInt := by rw [g988, wI_at (by decide)]
                                    have s993 : (h987.1 96 13).toInt = (h921.1 96 13).toInt := by rw [g988, wI_at (by decide)]
                                    have s994 : (h987.1 96 9).toInt = (h921.1 96 9).toInt := by rw [g988, wI_at (by decide)]
                                    have s995 : (h987.1 96 11).toInt = (h921.1 96 11).toInt := by rw [g988, wI_at (by decide)]
                                    have s996 : (h987.1 96 10).toInt = 2 := by rw [g988, wI_is]; rfl
                                    refine R_goto 239 rfl rfl ?_
                                    exact R_vret rfl rfl ⟨hI, fr, ⟨by omega, by omega, by omega, by omega, trivial⟩, rfl⟩
                                  · exfalso; omega
                                · show RUN d_X9_advance 162 [(1, .inl x813), (0, .inr (.inr (.inl 96)))] [.inl x973] h921 _
                                  refine N_if_eq (a := x973.toInt) 206 rfl rfl rfl (fun c997 => ?_) (fun c997 => ?_)
                                  · exfalso; omega
                                  · refine R_aload_n (k := 0) rfl rfl rfl ?_
                                    refine R_ldc_i (x := 99999) rfl kt_9_166 ?_
                                    refine R_bipush 10 rfl rfl ?_
                                    refine R_aload_n (k := 0) rfl rfl rfl ?_
                                    refine R_getf_i (j := 11) rfl ft_9_163 sh_96 rfl ?_
                                    have b998 := i_rng (h921.1 96 11)
                                    refine R_imul rfl ?_
                                    refine N_any (fun x999 => ?_)
                                    refine R_aload_n (k := 0) rfl rfl rfl ?_
                                    refine R_aload_n (k := 0) rfl rfl rfl ?_
                                    refine R_getf_i (j := 8) rfl ft_9_142 sh_96 rfl ?_
                                    refine R_callV (v := .inr (.inr (.inl 96))) (As := [.inl (h921.1 96 8)]) (rest := [.inl x999, .inl 99999, .inr (.inr (.inl 96))]) rfl mt_9_i145 pp_X9_see (by decide) rfl rfl rfl (Nat.le_of_ble_eq_true rfl) (Nat.le_of_ble_eq_true rfl) ((k_X9_see h921 hI (h921.1 96 8) (by omega)).mono (fun r1000 h1001 p1002 => ?_))
                                    obtain ⟨rfl, x1003, rfl, q1004 | q1004⟩ := p1002
                                    · show RUN d_X9_advance 183 [(1, .inl x813), (0, .inr (.inr (.inl 96)))] [.inl x1003, .inl x999, .inl 99999, .inr (.inr (.inl 96))] h921 _
                                      have b1005 := i_rng x999
                                      refine R_iadd rfl ?_
                                      refine N_any (fun x1006 => ?_)
                                      refine R_bipush 48 rfl rfl ?_
                                      have b1007 := i_rng x1006
                                      refine R_isub rfl ?_
                                      refine N_any (fun x1008 => ?_)
                                      refine N_min (a := 99999) (b := x1008.toInt) rfl mt_9_i167 (by decide) rfl ⟨by decide, by decide, Nat.le_of_ble_eq_true rfl⟩ (fun x1009 q1010 => ?_)
                                      refine K_putf (j := 11) (lo := (-2147483648)) (hi' := 2147483647) rfl ft_9_163 sh_96 rfl hI (by decide) rfl (i_rng _) fr (by decide) (fun h1011 g1012 hI fr => ?_)
                                      have fl922 : FR [96] h910 h1011 := by rw [g1012]; exact FR_wI _ _ fl922 (by decide)
                                      have fl8 : FR [96] h h1011 := by rw [g1012]; exact FR_wI _ _ fl8 (by decide)
                                      have s1013 : (h1011.1 96 7).toInt = (h921.1 96 7).toInt := by rw [g1012, wI_at (by decide)]
                                      have s1014 : (h1011.1 96 5).toInt = (h921.1 96 5).toInt := by rw [g1012, wI_at (by decide)]
                                      have s1015 : (h1011.1 96 8).toInt = (h921.1 96 8).toInt := by rw [g1012, wI_at (by decide)]
                                      have s1016 : (h1011.1 96 12).toInt = (h921.1 96 12).toInt := by rw [g1012, wI_at (by decide)]
                                      have s1017 : (h1011.1 96 13).toInt = (h921.1 96 13).toInt := by rw [g1012, wI_at (by decide)]
                                      have s1018 : (h1011.1 96 9).toInt = (h921.1 96 9).toInt := by rw [g1012, wI_at (by decide)]
                                      have s1019 : (h1011.1 96 11).toInt = x1009.toInt := by rw [g1012, wI_is]
                                      refine R_aload_n (k := 0) rfl rfl rfl ?_
                                      refine R_dup_r rfl ?_
                                      refine R_getf_i (j := 8) rfl ft_9_142 sh_96 rfl ?_
                                      refine R_iconst 1 rfl rfl ?_
                                      refine N_iadd (a := (h1011.1 96 8).toInt) (b := 1) rfl rfl (by decide) (by omega) (fun x1020 q1021 => ?_)
                                      refine K_putf (j := 8) (lo := 0) (hi' := 500) rfl ft_9_142 sh_96 rfl hI (by decide) rfl (by omega) fr (by decide) (fun h1022 g1023 hI fr => ?_)
                                      have fl922 : FR [96] h910 h1022 := by rw [g1023]; exact FR_wI _ _ fl922 (by decide)
                                      have fl8 : FR [96] h h1022 := by rw [g1023]; exact FR_wI _ _ fl8 (by decide)
                                      have s1024 : (h1022.1 96 7).toInt = (h1011.1 96 7).toInt := by rw [g1023, wI_at (by decide)]
                                      have s1025 : (h1022.1 96 5).toInt = (h1011.1 96 5).toInt := by rw [g1023, wI_at (by decide)]
                                      have s1026 : (h1022.1 96 12).toInt = (h1011.1 96 12).toInt := by rw [g1023, wI_at (by decide)]
                                      have s1027 : (h1022.1 96 13).toInt = (h1011.1 96 13).toInt := by rw [g1023, wI_at (by decide)]
                                      have s1028 : (h1022.1 96 9).toInt = (h1011.1 96 9).toInt := by rw [g1023, wI_at (by decide)]
                                      have s1029 : (h1022.1 96 11).toInt = (h1011.1 96 11).toInt := by rw [g1023, wI_at (by decide)]
                                      have s1030 : (h1022.1 96 8).toInt = x1020.toInt := by rw [g1023, wI_is]
                                      refine R_goto 144 rfl rfl ?_
                                      exact RUN_weak (psub_cons rfl (psub_cons rfl (psub_nil _))) (ih923 h1022 hI fr fl922 (by omega) (by omega) (by omega) (by omega) (by omega) (by omega) (by omega) (by omega) (by omega) (by omega) (by omega) (by omega) (by omega) (by omega) (by omega))
                                    · show RUN d_X9_advance 183 [(1, .inl x813), (0, .inr (.inr (.inl 96)))] [.inl x1003, .inl x999, .inl 99999, .inr (.inr (.inl 96))] h921 _
                                      have b1031 := i_rng x999
                                      refine R_iadd rfl ?_
                                      refine N_any (fun x1032 => ?_)
                                      refine R_bipush 48 rfl rfl ?_
                                      have b1033 := i_rng x1032
                                      refine R_isub rfl ?_
                                      refine N_any (fun x1034 => ?_)
                                      refine N_min (a := 99999) (b := x1034.toInt) rfl mt_9_i167 (by decide) rfl ⟨by decide, by decide, Nat.le_of_ble_eq_true rfl⟩ (fun x1035 q1036 => ?_)
                                      refine K_putf (j := 11) (lo := (-2147483648)) (hi' := 2147483647) rfl ft_9_163 sh_96 rfl hI (by decide) rfl (i_rng _) fr (by decide) (fun h1037 g1038 hI fr => ?_)
                                      have fl922 : FR [96] h910 h1037 := by rw [g1038]; exact FR_wI _ _ fl922 (by decide)
                                      have fl8 : FR [96] h h1037 := by rw [g1038]; exact FR_wI _ _ fl8 (by decide)
                                      have s1039 : (h1037.1 96 7).toInt = (h921.1 96 7).toInt := by rw [g1038, wI_at (by decide)]
                                      have s1040 : (h1037.1 96 5).toInt = (h921.1 96 5).toInt := by rw [g1038, wI_at (by decide)]
                                      have s1041 : (h1037.1 96 8).toInt = (h921.1 96 8).toInt := by rw [g1038, wI_at (by decide)]
                                      have s1042 : (h1037.1 96 12).toInt = (h921.1 96 12).toInt := by rw [g1038, wI_at (by decide)]
                                      have s1043 : (h1037.1 96 13).toInt = (h921.1 96 13).toInt := by rw [g1038, wI_at (by decide)]
                                      have s1044 : (h1037.1 96 9).toInt = (h921.1 96 9).toInt := by rw [g1038, wI_at (by decide)]
                                      have s1045 : (h1037.1 96 11).toInt = x1035.toInt := by rw [g1038, wI_is]
                                      refine R_aload_n (k := 0) rfl rfl rfl ?_
                                      refine R_dup_r rfl ?_
                                      refine R_getf_i (j := 8) rfl ft_9_142 sh_96 rfl ?_
                                      refine R_iconst 1 rfl rfl ?_
                                      refine N_iadd (a := (h1037.1 96 8).toInt) (b := 1) rfl rfl (by decide) (by omega) (fun x1046 q1047 => ?_)
                                      refine K_putf (j := 8) (lo := 0) (hi' := 500) rfl ft_9_142 sh_96 rfl hI (by decide) rfl (by omega) fr (by decide) (fun h1048 g1049 hI fr => ?_)
                                      have fl922 : FR [96] h910 h1048 := by rw [g1049]; exact FR_wI _ _ fl922 (by decide)
                                      have fl8 : FR [96] h h1048 := by rw [g1049]; exact FR_wI _ _ fl8 (by decide)
                                      have s1050 : (h1048.1 96 7).toInt = (h1037.1 96 7).toInt := by rw [g1049, wI_at (by decide)]
                                      have s1051 : (h1048.1 96 5).toInt = (h1037.1 96 5).toInt := by rw [g1049, wI_at (by decide)]
                                      have s1052 : (h1048.1 96 12).toInt = (h1037.1 96 12).toInt := by rw [g1049, wI_at (by decide)]
                                      have s1053 : (h1048.1 96 13).toInt = (h1037.1 96 13).toInt := by rw [g1049, wI_at (by decide)]
                                      have s1054 : (h1048.1 96 9).toInt = (h1037.1 96 9).toInt := by rw [g1049, wI_at (by decide)]
                                      have s1055 : (h1048.1 96 11).toInt = (h1037.1 96 11).toInt := by rw [g1049, wI_at (by decide)]
                                      have s1056 : (h1048.1 96 8).toInt = x1046.toInt := by rw [g1049, wI_is]
                                      refine R_goto 144 rfl rfl ?_
                                      exact RUN_weak (psub_cons rfl (psub_cons rfl (psub_nil _))) (ih923 h1048 hI fr fl922 (by omega) (by omega) (by omega) (by omega) (by omega) (by omega) (by omega) (by omega) (by omega) (by omega) (by omega) (by omega) (by omega) (by omega) (by omega))
                          exact lp920 _ h910 hI fr (FR.rf _ _) rfl rfl rfl rfl rfl (by omega) (by omega) (by omega) (by omega) (by omega) (by omega) (by omega) (by omega) (by omega) (Nat.lt_succ_self _)
                    · exfalso; omega
                  · show RUN d_X9_advance 80 [(1, .inl x813), (0, .inr (.inr (.inl 96)))] [.inl x833] h802 _
                    refine N_if_eq (a := x833.toInt) 125 rfl rfl rfl (fun c1057 => ?_) (fun c1057 => ?_)
                    · refine R_iload_n (k := 1) rfl rfl rfl ?_
                      refine N_i2l rfl (fun w1058 q1059 => ?_)
                      refine R_ldc2 (x := 48) rfl kt_9_159 ?_
                      refine R_ldc2 (x := 57) rfl kt_9_161 ?_
                      have k1060 : (48 : Int64).toInt = 48 := by decide
                      have k1061 : (57 : Int64).toInt = 57 := by decide
                      refine R_callS (As := [.inr (.inl w1058), .inr (.inl 48), .inr (.inl 57)]) (rest := []) rfl mt_9_i125 (by decide) pp_X9_in (by decide) rfl rfl (Nat.le_of_ble_eq_true rfl) (Nat.le_of_ble_eq_true rfl) ((k_X9_in h802 hI w1058 (48 : Int64) (57 : Int64)).mono (fun r1062 h1063 p1064 => ?_))
                      obtain ⟨rfl, x1065, rfl, q1066 | q1066 | q1066⟩ := p1064
                      · exfalso; omega
                      · show RUN d_X9_advance 136 [(1, .inl x813), (0, .inr (.inr (.inl 96)))] [.inl x1065] h802 _
                        refine N_if_eq (a := x1065.toInt) 214 rfl rfl rfl (fun c1067 => ?_) (fun c1067 => ?_)
                        · refine R_aload_n (k := 0) rfl rfl rfl ?_
                          refine R_iload_n (k := 1) rfl rfl rfl ?_
                          refine R_bipush 59 rfl rfl ?_
                          refine N_icmp_ne (a := x813.toInt) (b := 59) 225 rfl rfl rfl (by decide) (fun c1068 => ?_) (fun c1068 => ?_)
                          · refine R_iconst 4 rfl rfl ?_
                            refine K_putf (j := 10) (lo := (-2147483648)) (hi' := 2147483647) rfl ft_9_152 sh_96 rfl hI (by decide) rfl (by decide) fr (by decide) (fun h1069 g1070 hI fr => ?_)
                            have fl8 : FR [96] h h1069 := by rw [g1070]; exact FR_wI _ _ fl8 (by decide)
                            have s1071 : (h1069.1 96 7).toInt = (h802.1 96 7).toInt := by rw [g1070, wI_at (by decide)]
                            have s1072 : (h1069.1 96 5).toInt = (h802.1 96 5).toInt := by rw [g1070, wI_at (by decide)]
                            have s1073 : (h1069.1 96 8).toInt = (h802.1 96 8).toInt := by rw [g1070, wI_at (by decide)]
                            have s1074 : (h1069.1 96 12).toInt = (h802.1 96 12).toInt := by rw [g1070, wI_at (by decide)]
                            have s1075 : (h1069.1 96 13).toInt = (h802.1 96 13).toInt := by rw [g1070, wI_at (by decide)]
                            have s1076 : (h1069.1 96 9).toInt = (h802.1 96 9).toInt := by rw [g1070, wI_at (by decide)]
                            have s1077 : (h1069.1 96 10).toInt = 4 := by rw [g1070, wI_is]; rfl
                            refine R_aload_n (k := 0) rfl rfl rfl ?_
                            refine R_dup_r rfl ?_
                            refine R_getf_i (j := 8) rfl ft_9_142 sh_96 rfl ?_
                            refine R_iconst 1 rfl rfl ?_
                            refine N_iadd (a := (h1069.1 96 8).toInt) (b := 1) rfl rfl (by decide) (by omega) (fun x1078 q1079 => ?_)
                            refine K_putf (j := 8) (lo := 0) (hi' := 500) rfl ft_9_142 sh_96 rfl hI (by decide) rfl (by omega) fr (by decide) (fun h1080 g1081 hI fr => ?_)
                            have fl8 : FR [96] h h1080 := by rw [g1081]; exact FR_wI _ _ fl8 (by decide)
                            have s1082 : (h1080.1 96 7).toInt = (h1069.1 96 7).toInt := by rw [g1081, wI_at (by decide)]
                            have s1083 : (h1080.1 96 5).toInt = (h1069.1 96 5).toInt := by rw [g1081, wI_at (by decide)]
                            have s1084 : (h1080.1 96 12).toInt = (h1069.1 96 12).toInt := by rw [g1081, wI_at (by decide)]
                            have s1085 : (h1080.1 96 13).toInt = (h1069.1 96 13).toInt := by rw [g1081, wI_at (by decide)]
                            have s1086 : (h1080.1 96 9).toInt = (h1069.1 96 9).toInt := by rw [g1081, wI_at (by decide)]
                            have s1087 : (h1080.1 96 10).toInt = (h1069.1 96 10).toInt := by rw [g1081, wI_at (by decide)]
                            have s1088 : (h1080.1 96 8).toInt = x1078.toInt := by rw [g1081, wI_is]
                            exact R_vret rfl rfl ⟨hI, fr, ⟨by omega, by omega, by omega, by omega, trivial⟩, rfl⟩
                          · exfalso; omega
                        · exfalso; omega
                      · exfalso; omega
                    · exfalso; omega
                  · show RUN d_X9_advance 80 [(1, .inl x813), (0, .inr (.inr (.inl 96)))] [.inl x833] h802 _
                    refine N_if_eq (a := x833.toInt) 125 rfl rfl rfl (fun c1089 => ?_) (fun c1089 => ?_)
                    · exfalso; omega
                    · have lp1091 : ∀ (n1090 : Nat) (h1092 : PH), INV h1092 → FR [96] h h1092 → FR [96] h802 h1092 → (h1092.1 96 7).toInt = (h802.1 96 7).toInt → (h1092.1 96 5).toInt = (h802.1 96 5).toInt → (h1092.1 96 12).toInt = (h802.1 96 12).toInt → (h1092.1 96 13).toInt = (h802.1 96 13).toInt → (h1092.1 96 9).toInt = (h802.1 96 9).toInt → 1 ≤ (h1092.1 96 8).toInt ∧ (h1092.1 96 8).toInt ≤ 498 → (h1092.1 96 8).toInt ≤ x813.toInt + 398 → (h1092.1 96 8).toInt ≤ (h802.1 96 7).toInt + (-3) → (h802.1 96 7).toInt ≤ (h1092.1 96 8).toInt + (-2) → (h1092.1 96 8).toInt ≤ (h802.1 96 5).toInt + 495 → (h1092.1 96 8).toInt ≤ (h802.1 96 12).toInt + 495 → (h1092.1 96 8).toInt ≤ (h802.1 96 9).toInt + (-3) → (h802.1 96 9).toInt ≤ (h1092.1 96 8).toInt + (-3) → (498 - (h1092.1 96 8).toInt).toNat < n1090 → RUN d_X9_advance 83 [(1, .inl x813), (0, .inr (.inr (.inl 96)))] [] h1092 (q_X9_advance h) := by
                        intro n1090
                        induction n1090 with
                        | zero => intro h1092 m1095 m1096 m1097 m1098 m1099 m1100 m1101 m1102 m1103 m1104 m1105 m1106 m1107 m1108 m1109 m1110 hz; exact absurd hz (Nat.not_lt_zero _)
                        | succ n1090 ih1094 =>
                          intro h1092 hI fr fl1093 m1098 m1099 m1100 m1101 m1102 m1103 m1104 m1105 m1106 m1107 m1108 m1109 m1110 hz
                          have fl8 : FR [96] h h1092 := fl8.trans fl1093 (by decide)
                          refine R_aload_n (k := 0) rfl rfl rfl ?_
                          refine R_aload_n (k := 0) rfl rfl rfl ?_
                          refine R_getf_i (j := 8) rfl ft_9_142 sh_96 rfl ?_
                          refine R_callV (v := .inr (.inr (.inl 96))) (As := [.inl (h1092.1 96 8)]) (rest := []) rfl mt_9_i145 pp_X9_see (by decide) rfl rfl rfl (Nat.le_of_ble_eq_true rfl) (Nat.le_of_ble_eq_true rfl) ((k_X9_see h1092 hI (h1092.1 96 8) (by omega)).mono (fun r1111 h1112 p1113 => ?_))
                          obtain ⟨rfl, x1114, rfl, q1115 | q1115⟩ := p1113
                          · show RUN d_X9_advance 91 [(1, .inl x813), (0, .inr (.inr (.inl 96)))] [.inl x1114] h1092 _
                            refine N_i2l rfl (fun w1116 q1117 => ?_)
                            refine R_ldc2 (x := 97) rfl kt_9_155 ?_
                            refine R_ldc2 (x := 122) rfl kt_9_157 ?_
                            have k1118 : (97 : Int64).toInt = 97 := by decide
                            have k1119 : (122 : Int64).toInt = 122 := by decide
                            refine R_callS (As := [.inr (.inl w1116), .inr (.inl 97), .inr (.inl 122)]) (rest := []) rfl mt_9_i125 (by decide) pp_X9_in (by decide) rfl rfl (Nat.le_of_ble_eq_true rfl) (Nat.le_of_ble_eq_true rfl) ((k_X9_in h1092 hI w1116 (97 : Int64) (122 : Int64)).mono (fun r1120 h1121 p1122 => ?_))
                            obtain ⟨rfl, x1123, rfl, q1124 | q1124 | q1124⟩ := p1122
                            · show RUN d_X9_advance 101 [(1, .inl x813), (0, .inr (.inr (.inl 96)))] [.inl x1123] h1092 _
                              refine N_if_eq (a := x1123.toInt) 117 rfl rfl rfl (fun c1125 => ?_) (fun c1125 => ?_)
                              · refine R_aload_n (k := 0) rfl rfl rfl ?_
                                refine R_iconst 1 rfl rfl ?_
                                refine K_putf (j := 10) (lo := (-2147483648)) (hi' := 2147483647) rfl ft_9_152 sh_96 rfl hI (by decide) rfl (by decide) fr (by decide) (fun h1126 g1127 hI fr => ?_)
                                have fl1093 : FR [96] h802 h1126 := by rw [g1127]; exact FR_wI _ _ fl1093 (by decide)
                                have fl8 : FR [96] h h1126 := by rw [g1127]; exact FR_wI _ _ fl8 (by decide)
                                have s1128 : (h1126.1 96 7).toInt = (h1092.1 96 7).toInt := by rw [g1127, wI_at (by decide)]
                                have s1129 : (h1126.1 96 5).toInt = (h1092.1 96 5).toInt := by rw [g1127, wI_at (by decide)]
                                have s1130 : (h1126.1 96 8).toInt = (h1092.1 96 8).toInt := by rw [g1127, wI_at (by decide)]
                                have s1131 : (h1126.1 96 12).toInt = (h1092.1 96 12).toInt := by rw [g1127, wI_at (by decide)]
                                have s1132 : (h1126.1 96 13).toInt = (h1092.1 96 13).toInt := by rw [g1127, wI_at (by decide)]
                                have s1133 : (h1126.1 96 9).toInt = (h1092.1 96 9).toInt := by rw [g1127, wI_at (by decide)]
                                have s1134 : (h1126.1 96 10).toInt = 1 := by rw [g1127, wI_is]; rfl
                                refine R_goto 239 rfl rfl ?_
                                exact R_vret rfl rfl ⟨hI, fr, ⟨by omega, by omega, by omega, by omega, trivial⟩, rfl⟩
                              · exfalso; omega
                            · exfalso; omega
                            · exfalso; omega
                          · show RUN d_X9_advance 91 [(1, .inl x813), (0, .inr (.inr (.inl 96)))] [.inl x1114] h1092 _
                            refine N_i2l rfl (fun w1135 q1136 => ?_)
                            refine R_ldc2 (x := 97) rfl kt_9_155 ?_
                            refine R_ldc2 (x := 122) rfl kt_9_157 ?_
                            have k1137 : (97 : Int64).toInt = 97 := by decide
                            have k1138 : (122 : Int64).toInt = 122 := by decide
                            refine R_callS (As := [.inr (.inl w1135), .inr (.inl 97), .inr (.inl 122)]) (rest := []) rfl mt_9_i125 (by decide) pp_X9_in (by decide) rfl rfl (Nat.le_of_ble_eq_true rfl) (Nat.le_of_ble_eq_true rfl) ((k_X9_in h1092 hI w1135 (97 : Int64) (122 : Int64)).mono (fun r1139 h1140 p1141 => ?_))
                            obtain ⟨rfl, x1142, rfl, q1143 | q1143 | q1143⟩ := p1141
                            · show RUN d_X9_advance 101 [(1, .inl x813), (0, .inr (.inr (.inl 96)))] [.inl x1142] h1092 _
                              refine N_if_eq (a := x1142.toInt) 117 rfl rfl rfl (fun c1144 => ?_) (fun c1144 => ?_)
                              · refine R_aload_n (k := 0) rfl rfl rfl ?_
                                refine R_iconst 1 rfl rfl ?_
                                refine K_putf (j := 10) (lo := (-2147483648)) (hi' := 2147483647) rfl ft_9_152 sh_96 rfl hI (by decide) rfl (by decide) fr (by decide) (fun h1145 g1146 hI fr => ?_)
                                have fl1093 : FR [96] h802 h1145 := by rw [g1146]; exact FR_wI _ _ fl1093 (by decide)
                                have fl8 : FR [96] h h1145 := by rw [g1146]; exact FR_wI _ _ fl8 (by decide)
                                have s1147 : (h1145.1 96 7).toInt = (h1092.1 96 7).toInt := by rw [g1146, wI_at (by decide)]
                                have s1148 : (h1145.1 96 5).toInt = (h1092.1 96 5).toInt := by rw [g1146, wI_at (by decide)]
                                have s1149 : (h1145.1 96 8).toInt = (h1092.1 96 8).toInt := by rw [g1146, wI_at (by decide)]
                                have s1150 : (h1145.1 96 12).toInt = (h1092.1 96 12).toInt := by rw [g1146, wI_at (by decide)]
                                have s1151 : (h1145.1 96 13).toInt = (h1092.1 96 13).toInt := by rw [g1146, wI_at (by decide)]
                                have s1152 : (h1145.1 96 9).toInt = (h1092.1 96 9).toInt := by rw [g1146, wI_at (by decide)]
                                have s1153 : (h1145.1 96 10).toInt = 1 := by rw [g1146, wI_is]; rfl
                                refine R_goto 239 rfl rfl ?_
                                exact R_vret rfl rfl ⟨hI, fr, ⟨by omega, by omega, by omega, by omega, trivial⟩, rfl⟩
                              · exfalso; omega
                            · show RUN d_X9_advance 101 [(1, .inl x813), (0, .inr (.inr (.inl 96)))] [.inl x1142] h1092 _
                              refine N_if_eq (a := x1142.toInt) 117 rfl rfl rfl (fun c1154 => ?_) (fun c1154 => ?_)
                              · refine R_aload_n (k := 0) rfl rfl rfl ?_
                                refine R_iconst 1 rfl rfl ?_
                                refine K_putf (j := 10) (lo := (-2147483648)) (hi' := 2147483647) rfl ft_9_152 sh_96 rfl hI (by decide) rfl (by decide) fr (by decide) (fun h1155 g1156 hI fr => ?_)
                                have fl1093 : FR [96] h802 h1155 := by rw [g1156]; exact FR_wI _ _ fl1093 (by decide)
                                have fl8 : FR [96] h h1155 := by rw [g1156]; exact FR_wI _ _ fl8 (by decide)
                                have s1157 : (h1155.1 96 7).toInt = (h1092.1 96 7).toInt := by rw [g1156, wI_at (by decide)]
                                have s1158 : (h1155.1 96 5).toInt = (h1092.1 96 5).toInt := by rw [g1156, wI_at (by decide)]
                                have s1159 : (h1155.1 96 8).toInt = (h1092.1 96 8).toInt := by rw [g1156, wI_at (by decide)]
                                have s1160 : (h1155.1 96 12).toInt = (h1092.1 96 12).toInt := by rw [g1156, wI_at (by decide)]
                                have s1161 : (h1155.1 96 13).toInt = (h1092.1 96 13).toInt := by rw [g1156, wI_at (by decide)]
                                have s1162 : (h1155.1 96 9).toInt = (h1092.1 96 9).toInt := by rw [g1156, wI_at (by decide)]
                                have s1163 : (h1155.1 96 10).toInt = 1 := by rw [g1156, wI_is]; rfl
                                refine R_goto 239 rfl rfl ?_
                                exact R_vret rfl rfl ⟨hI, fr, ⟨by omega, by omega, by omega, by omega, trivial⟩, rfl⟩
                              · exfalso; omega
                            · show RUN d_X9_advance 101 [(1, .inl x813), (0, .inr (.inr (.inl 96)))] [.inl x1142] h1092 _
                              refine N_if_eq (a := x1142.toInt) 117 rfl rfl rfl (fun c1164 => ?_) (fun c1164 => ?_)
                              · exfalso; omega
                              · refine R_aload_n (k := 0) rfl rfl rfl ?_
                                refine R_dup_r rfl ?_
                                refine R_getf_i (j := 8) rfl ft_9_142 sh_96 rfl ?_
                                refine R_iconst 1 rfl rfl ?_
                                refine N_iadd (a := (h1092.1 96 8).toInt) (b := 1) rfl rfl (by decide) (by omega) (fun x1165 q1166 => ?_)
                                refine K_putf (j := 8) (lo := 0) (hi' := 500) rfl ft_9_142 sh_96 rfl hI (by decide) rfl (by omega) fr (by decide) (fun h1167 g1168 hI fr => ?_)
                                have fl1093 : FR [96] h802 h1167 := by rw [g1168]; exact FR_wI _ _ fl1093 (by decide)
                                have fl8 : FR [96] h h1167 := by rw [g1168]; exact FR_wI _ _ fl8 (by decide)
                                have s1169 : (h1167.1 96 7).toInt = (h1092.1 96 7).toInt := by rw [g1168, wI_at (by decide)]
                                have s1170 : (h1167.1 96 5).toInt = (h1092.1 96 5).toInt := by rw [g1168, wI_at (by decide)]
                                have s1171 : (h1167.1 96 12).toInt = (h1092.1 96 12).toInt := by rw [g1168, wI_at (by decide)]
                                have s1172 : (h1167.1 96 13).toInt = (h1092.1 96 13).toInt := by rw [g1168, wI_at (by decide)]
                                have s1173 : (h1167.1 96 9).toInt = (h1092.1 96 9).toInt := by rw [g1168, wI_at (by decide)]
                                have s1174 : (h1167.1 96 8).toInt = x1165.toInt := by rw [g1168, wI_is]
                                refine R_goto 83 rfl rfl ?_
                                exact RUN_weak (psub_cons rfl (psub_cons rfl (psub_nil _))) (ih1094 h1167 hI fr fl1093 (by omega) (by omega) (by omega) (by omega) (by omega) (by omega) (by omega) (by omega) (by omega) (by omega) (by omega) (by omega) (by omega) (by omega))
                      exact lp1091 _ h802 hI fr (FR.rf _ _) rfl rfl rfl rfl rfl (by omega) (by omega) (by omega) (by omega) (by omega) (by omega) (by omega) (by omega) (Nat.lt_succ_self _)
                · exfalso; omega
            · exfalso; omega
          · show RUN d_X9_advance 21 [(0, .inr (.inr (.inl 96)))] [.inl x799] h7 _
            refine R_bipush 10 rfl rfl ?_
            refine N_icmp_ne (a := x799.toInt) (b := 10) 39 rfl rfl rfl (by decide) (fun c1175 => ?_) (fun c1175 => ?_)
            · refine R_aload_n (k := 0) rfl rfl rfl ?_
              refine R_aload_n (k := 0) rfl rfl rfl ?_
              refine R_getf_i (j := 8) rfl ft_9_142 sh_96 rfl ?_
              refine K_putf (j := 9) (lo := 0) (hi' := 500) rfl ft_9_149 sh_96 rfl hI (by decide) rfl (by omega) fr (by decide) (fun h1176 g1177 hI fr => ?_)
              have fl8 : FR [96] h h1176 := by rw [g1177]; exact FR_wI _ _ fl8 (by decide)
              have s1178 : (h1176.1 96 7).toInt = (h7.1 96 7).toInt := by rw [g1177, wI_at (by decide)]
              have s1179 : (h1176.1 96 5).toInt = (h7.1 96 5).toInt := by rw [g1177, wI_at (by decide)]
              have s1180 : (h1176.1 96 8).toInt = (h7.1 96 8).toInt := by rw [g1177, wI_at (by decide)]
              have s1181 : (h1176.1 96 12).toInt = (h7.1 96 12).toInt := by rw [g1177, wI_at (by decide)]
              have s1182 : (h1176.1 96 13).toInt = (h7.1 96 13).toInt := by rw [g1177, wI_at (by decide)]
              have s1183 : (h1176.1 96 9).toInt = (h7.1 96 8).toInt := by rw [g1177, wI_is]
              refine R_aload_n (k := 0) rfl rfl rfl ?_
              refine R_aload_n (k := 0) rfl rfl rfl ?_
              refine R_getf_i (j := 8) rfl ft_9_142 sh_96 rfl ?_
              refine R_callV (v := .inr (.inr (.inl 96))) (As := [.inl (h1176.1 96 8)]) (rest := []) rfl mt_9_i145 pp_X9_see (by decide) rfl rfl rfl (Nat.le_of_ble_eq_true rfl) (Nat.le_of_ble_eq_true rfl) ((k_X9_see h1176 hI (h1176.1 96 8) (by omega)).mono (fun r1184 h1185 p1186 => ?_))
              obtain ⟨rfl, x1187, rfl, q1188 | q1188⟩ := p1186
              · show RUN d_X9_advance 55 [(0, .inr (.inr (.inl 96)))] [.inl x1187] h1176 _
                refine R_istore_n (k := 1) rfl [(1, .inl x1187), (0, .inr (.inr (.inl 96)))] rfl rfl (by decide) ?_
                refine R_iload_n (k := 1) rfl rfl rfl ?_
                refine R_iconst (-1) rfl rfl ?_
                refine N_icmp_ne (a := x1187.toInt) (b := (-1)) 69 rfl rfl rfl (by decide) (fun c1189 => ?_) (fun c1189 => ?_)
                · exfalso; omega
                · refine R_aload_n (k := 0) rfl rfl rfl ?_
                  refine R_iconst 0 rfl rfl ?_
                  refine K_putf (j := 10) (lo := (-2147483648)) (hi' := 2147483647) rfl ft_9_152 sh_96 rfl hI (by decide) rfl (by decide) fr (by decide) (fun h1190 g1191 hI fr => ?_)
                  have fl8 : FR [96] h h1190 := by rw [g1191]; exact FR_wI _ _ fl8 (by decide)
                  have s1192 : (h1190.1 96 7).toInt = (h1176.1 96 7).toInt := by rw [g1191, wI_at (by decide)]
                  have s1193 : (h1190.1 96 5).toInt = (h1176.1 96 5).toInt := by rw [g1191, wI_at (by decide)]
                  have s1194 : (h1190.1 96 8).toInt = (h1176.1 96 8).toInt := by rw [g1191, wI_at (by decide)]
                  have s1195 : (h1190.1 96 12).toInt = (h1176.1 96 12).toInt := by rw [g1191, wI_at (by decide)]
                  have s1196 : (h1190.1 96 13).toInt = (h1176.1 96 13).toInt := by rw [g1191, wI_at (by decide)]
                  have s1197 : (h1190.1 96 9).toInt = (h1176.1 96 9).toInt := by rw [g1191, wI_at (by decide)]
                  have s1198 : (h1190.1 96 10).toInt = 0 := by rw [g1191, wI_is]; rfl
                  refine R_goto 239 rfl rfl ?_
                  exact R_vret rfl rfl ⟨hI, fr, ⟨by omega, by omega, by omega, by omega, trivial⟩, rfl⟩
              · show RUN d_X9_advance 55 [(0, .inr (.inr (.inl 96)))] [.inl x1187] h1176 _
                refine R_istore_n (k := 1) rfl [(1, .inl x1187), (0, .inr (.inr (.inl 96)))] rfl rfl (by decide) ?_
                refine R_iload_n (k := 1) rfl rfl rfl ?_
                refine R_iconst (-1) rfl rfl ?_
                refine N_icmp_ne (a := x1187.toInt) (b := (-1)) 69 rfl rfl rfl (by decide) (fun c1199 => ?_) (fun c1199 => ?_)
                · refine R_iload_n (k := 1) rfl rfl rfl ?_
                  refine N_i2l rfl (fun w1200 q1201 => ?_)
                  refine R_ldc2 (x := 97) rfl kt_9_155 ?_
                  refine R_ldc2 (x := 122) rfl kt_9_157 ?_
                  have k1202 : (97 : Int64).toInt = 97 := by decide
                  have k1203 : (122 : Int64).toInt = 122 := by decide
                  refine R_callS (As := [.inr (.inl w1200), .inr (.inl 97), .inr (.inl 122)]) (rest := []) rfl mt_9_i125 (by decide) pp_X9_in (by decide) rfl rfl (Nat.le_of_ble_eq_true rfl) (Nat.le_of_ble_eq_true rfl) ((k_X9_in h1176 hI w1200 (97 : Int64) (122 : Int64)).mono (fun r1204 h1205 p1206 => ?_))
                  obtain ⟨rfl, x1207, rfl, q1208 | q1208 | q1208⟩ := p1206
                  · show RUN d_X9_advance 80 [(1, .inl x1187), (0, .inr (.inr (.inl 96)))] [.inl x1207] h1176 _
                    refine N_if_eq (a := x1207.toInt) 125 rfl rfl rfl (fun c1209 => ?_) (fun c1209 => ?_)
                    · refine R_iload_n (k := 1) rfl rfl rfl ?_
                      refine N_i2l rfl (fun w1210 q1211 => ?_)
                      refine R_ldc2 (x := 48) rfl kt_9_159 ?_
                      refine R_ldc2 (x := 57) rfl kt_9_161 ?_
                      have k1212 : (48 : Int64).toInt = 48 := by decide
                      have k1213 : (57 : Int64).toInt = 57 := by decide
                      refine R_callS (As := [.inr (.inl w1210), .inr (.inl 48), .inr (.inl 57)]) (rest := []) rfl mt_9_i125 (by decide) pp_X9_in (by decide) rfl rfl (Nat.le_of_ble_eq_true rfl) (Nat.le_of_ble_eq_true rfl) ((k_X9_in h1176 hI w1210 (48 : Int64) (57 : Int64)).mono (fun r1214 h1215 p1216 => ?_))
                      obtain ⟨rfl, x1217, rfl, q1218 | q1218 | q1218⟩ := p1216
                      · show RUN d_X9_advance 136 [(1, .inl x1187), (0, .inr (.inr (.inl 96)))] [.inl x1217] h1176 _
                        refine N_if_eq (a := x1217.toInt) 214 rfl rfl rfl (fun c1219 => ?_) (fun c1219 => ?_)
                        · refine R_aload_n (k := 0) rfl rfl rfl ?_
                          refine R_iload_n (k := 1) rfl rfl rfl ?_
                          refine R_bipush 59 rfl rfl ?_
                          refine N_icmp_ne (a := x1187.toInt) (b := 59) 225 rfl rfl rfl (by decide) (fun c1220 => ?_) (fun c1220 => ?_)
                          · refine R_iconst 4 rfl rfl ?_
                            refine K_putf (j := 10) (lo := (-2147483648)) (hi' := 2147483647) rfl ft_9_152 sh_96 rfl hI (by decide) rfl (by decide) fr (by decide) (fun h1221 g1222 hI fr => ?_)
                            have fl8 : FR [96] h h1221 := by rw [g1222]; exact FR_wI _ _ fl8 (by decide)
                            have s1223 : (h1221.1 96 7).toInt = (h1176.1 96 7).toInt := by rw [g1222, wI_at (by decide)]
                            have s1224 : (h1221.1 96 5).toInt = (h1176.1 96 5).toInt := by rw [g1222, wI_at (by decide)]
                            have s1225 : (h1221.1 96 8).toInt = (h1176.1 96 8).toInt := by rw [g1222, wI_at (by decide)]
                            have s1226 : (h1221.1 96 12).toInt = (h1176.1 96 12).toInt := by rw [g1222, wI_at (by decide)]
                            have s1227 : (h1221.1 96 13).toInt = (h1176.1 96 13).toInt := by rw [g1222, wI_at (by decide)]
                            have s1228 : (h1221.1 96 9).toInt = (h1176.1 96 9).toInt := by rw [g1222, wI_at (by decide)]
                            have s1229 : (h1221.1 96 10).toInt = 4 := by rw [g1222, wI_is]; rfl
                            refine R_aload_n (k := 0) rfl rfl rfl ?_
                            refine R_dup_r rfl ?_
                            refine R_getf_i (j := 8) rfl ft_9_142 sh_96 rfl ?_
                            refine R_iconst 1 rfl rfl ?_
                            refine N_iadd (a := (h1221.1 96 8).toInt) (b := 1) rfl rfl (by decide) (by omega) (fun x1230 q1231 => ?_)
                            refine K_putf (j := 8) (lo := 0) (hi' := 500) rfl ft_9_142 sh_96 rfl hI (by decide) rfl (by omega) fr (by decide) (fun h1232 g1233 hI fr => ?_)
                            have fl8 : FR [96] h h1232 := by rw [g1233]; exact FR_wI _ _ fl8 (by decide)
                            have s1234 : (h1232.1 96 7).toInt = (h1221.1 96 7).toInt := by rw [g1233, wI_at (by decide)]
                            have s1235 : (h1232.1 96 5).toInt = (h1221.1 96 5).toInt := by rw [g1233, wI_at (by decide)]
                            have s1236 : (h1232.1 96 12).toInt = (h1221.1 96 12).toInt := by rw [g1233, wI_at (by decide)]
                            have s1237 : (h1232.1 96 13).toInt = (h1221.1 96 13).toInt := by rw [g1233, wI_at (by decide)]
                            have s1238 : (h1232.1 96 9).toInt = (h1221.1 96 9).toInt := by rw [g1233, wI_at (by decide)]
                            have s1239 : (h1232.1 96 10).toInt = (h1221.1 96 10).toInt := by rw [g1233, wI_at (by decide)]
                            have s1240 : (h1232.1 96 8).toInt = x1230.toInt := by rw [g1233, wI_is]
                            exact R_vret rfl rfl ⟨hI, fr, ⟨by omega, by omega, by omega, by omega, trivial⟩, rfl⟩
                          · exfalso; omega
                        · exfalso; omega
                      · show RUN d_X9_advance 136 [(1, .inl x1187), (0, .inr (.inr (.inl 96)))] [.inl x1217] h1176 _
                        refine N_if_eq (a := x1217.toInt) 214 rfl rfl rfl (fun c1241 => ?_) (fun c1241 => ?_)
                        · refine R_aload_n (k := 0) rfl rfl rfl ?_
                          refine R_iload_n (k := 1) rfl rfl rfl ?_
                          refine R_bipush 59 rfl rfl ?_
                          refine N_icmp_ne (a := x1187.toInt) (b := 59) 225 rfl rfl rfl (by decide) (fun c1242 => ?_) (fun c1242 => ?_)
                          · refine R_iconst 4 rfl rfl ?_
                            refine K_putf (j := 10) (lo := (-2147483648)) (hi' := 2147483647) rfl ft_9_152 sh_96 rfl hI (by decide) rfl (by decide) fr (by decide) (fun h1243 g1244 hI fr => ?_)
                            have fl8 : FR [96] h h1243 := by rw [g1244]; exact FR_wI _ _ fl8 (by decide)
                            have s1245 : (h1243.1 96 7).toInt = (h1176.1 96 7).toInt := by rw [g1244, wI_at (by decide)]
                            have s1246 : (h1243.1 96 5).toInt = (h1176.1 96 5).toInt := by rw [g1244, wI_at (by decide)]
                            have s1247 : (h1243.1 96 8).toInt = (h1176.1 96 8).toInt := by rw [g1244, wI_at (by decide)]
                            have s1248 : (h1243.1 96 12).toInt = (h1176.1 96 12).toInt := by rw [g1244, wI_at (by decide)]
                            have s1249 : (h1243.1 96 13).toInt = (h1176.1 96 13).toInt := by rw [g1244, wI_at (by decide)]
                            have s1250 : (h1243.1 96 9).toInt = (h1176.1 96 9).toInt := by rw [g1244, wI_at (by decide)]
                            have s1251 : (h1243.1 96 10).toInt = 4 := by rw [g1244, wI_is]; rfl
                            refine R_aload_n (k := 0) rfl rfl rfl ?_
                            refine R_dup_r rfl ?_
                            refine R_getf_i (j := 8) rfl ft_9_142 sh_96 rfl ?_
                            refine R_iconst 1 rfl rfl ?_
                            refine N_iadd (a := (h1243.1 96 8).toInt) (b := 1) rfl rfl (by decide) (by omega) (fun x1252 q1253 => ?_)
                            refine K_putf (j := 8) (lo := 0) (hi' := 500) rfl ft_9_142 sh_96 rfl hI (by decide) rfl (by omega) fr (by decide) (fun h1254 g1255 hI fr => ?_)
                            have fl8 : FR [96] h h1254 := by rw [g1255]; exact FR_wI _ _ fl8 (by decide)
                            have s1256 : (h1254.1 96 7).toInt = (h1243.1 96 7).toInt := by rw [g1255, wI_at (by decide)]
                            have s1257 : (h1254.1 96 5).toInt = (h1243.1 96 5).toInt := by rw [g1255, wI_at (by decide)]
                            have s1258 : (h1254.1 96 12).toInt = (h1243.1 96 12).toInt := by rw [g1255, wI_at (by decide)]
                            have s1259 : (h1254.1 96 13).toInt = (h1243.1 96 13).toInt := by rw [g1255, wI_at (by decide)]
                            have s1260 : (h1254.1 96 9).toInt = (h1243.1 96 9).toInt := by rw [g1255, wI_at (by decide)]
                            have s1261 : (h1254.1 96 10).toInt = (h1243.1 96 10).toInt := by rw [g1255, wI_at (by decide)]
                            have s1262 : (h1254.1 96 8).toInt = x1252.toInt := by rw [g1255, wI_is]
                            exact R_vret rfl rfl ⟨hI, fr, ⟨by omega, by omega, by omega, by omega, trivial⟩, rfl⟩
                          · refine R_iconst 3 rfl rfl ?_
                            refine R_goto 226 rfl rfl ?_
                            refine K_putf (j := 10) (lo := (-2147483648)) (hi' := 2147483647) rfl ft_9_152 sh_96 rfl hI (by decide) rfl (by decide) fr (by decide) (fun h1263 g1264 hI fr => ?_)
                            have fl8 : FR [96] h h1263 := by rw [g1264]; exact FR_wI _ _ fl8 (by decide)
                            have s1265 : (h1263.1 96 7).toInt = (h1176.1 96 7).toInt := by rw [g1264, wI_at (by decide)]
                            have s1266 : (h1263.1 96 5).toInt = (h1176.1 96 5).toInt := by rw [g1264, wI_at (by decide)]
                            have s1267 : (h1263.1 96 8).toInt = (h1176.1 96 8).toInt := by rw [g1264, wI_at (by decide)]
                            have s1268 : (h1263.1 96 12).toInt = (h1176.1 96 12).toInt := by rw [g1264, wI_at (by decide)]
                            have s1269 : (h1263.1 96 13).toInt = (h1176.1 96 13).toInt := by rw [g1264, wI_at (by decide)]
                            have s1270 : (h1263.1 96 9).toInt = (h1176.1 96 9).toInt := by rw [g1264, wI_at (by decide)]
                            have s1271 : (h1263.1 96 10).toInt = 3 := by rw [g1264, wI_is]; rfl
                            refine R_aload_n (k := 0) rfl rfl rfl ?_
                            refine R_dup_r rfl ?_
                            refine R_getf_i (j := 8) rfl ft_9_142 sh_96 rfl ?_
                            refine R_iconst 1 rfl rfl ?_
                            refine N_iadd (a := (h1263.1 96 8).toInt) (b := 1) rfl rfl (by decide) (by omega) (fun x1272 q1273 => ?_)
                            refine K_putf (j := 8) (lo := 0) (hi' := 500) rfl ft_9_142 sh_96 rfl hI (by decide) rfl (by omega) fr (by decide) (fun h1274 g1275 hI fr => ?_)
                            have fl8 : FR [96] h h1274 := by rw [g1275]; exact FR_wI _ _ fl8 (by decide)
                            have s1276 : (h1274.1 96 7).toInt = (h1263.1 96 7).toInt := by rw [g1275, wI_at (by decide)]
                            have s1277 : (h1274.1 96 5).toInt = (h1263.1 96 5).toInt := by rw [g1275, wI_at (by decide)]
                            have s1278 : (h1274.1 96 12).toInt = (h1263.1 96 12).toInt := by rw [g1275, wI_at (by decide)]
                            have s1279 : (h1274.1 96 13).toInt = (h1263.1 96 13).toInt := by rw [g1275, wI_at (by decide)]
                            have s1280 : (h1274.1 96 9).toInt = (h1263.1 96 9).toInt := by rw [g1275, wI_at (by decide)]
                            have s1281 : (h1274.1 96 10).toInt = (h1263.1 96 10).toInt := by rw [g1275, wI_at (by decide)]
                            have s1282 : (h1274.1 96 8).toInt = x1272.toInt := by rw [g1275, wI_is]
                            exact R_vret rfl rfl ⟨hI, fr, ⟨by omega, by omega, by omega, by omega, trivial⟩, rfl⟩
                        · exfalso; omega
                      · show RUN d_X9_advance 136 [(1, .inl x1187), (0, .inr (.inr (.inl 96)))] [.inl x1217] h1176 _
                        refine N_if_eq (a := x1217.toInt) 214 rfl rfl rfl (fun c1283 => ?_) (fun c1283 => ?_)
                        · exfalso; omega
                        · refine R_aload_n (k := 0) rfl rfl rfl ?_
                          refine R_iconst 0 rfl rfl ?_
                          refine K_putf (j := 11) (lo := (-2147483648)) (hi' := 2147483647) rfl ft_9_163 sh_96 rfl hI (by decide) rfl (by decide) fr (by decide) (fun h1284 g1285 hI fr => ?_)
                          have fl8 : FR [96] h h1284 := by rw [g1285]; exact FR_wI _ _ fl8 (by decide)
                          have s1286 : (h1284.1 96 7).toInt = (h1176.1 96 7).toInt := by rw [g1285, wI_at (by decide)]
                          have s1287 : (h1284.1 96 5).toInt = (h1176.1 96 5).toInt := by rw [g1285, wI_at (by decide)]
                          have s1288 : (h1284.1 96 8).toInt = (h1176.1 96 8).toInt := by rw [g1285, wI_at (by decide)]
                          have s1289 : (h1284.1 96 12).toInt = (h1176.1 96 12).toInt := by rw [g1285, wI_at (by decide)]
                          have s1290 : (h1284.1 96 13).toInt = (h1176.1 96 13).toInt := by rw [g1285, wI_at (by decide)]
                          have s1291 : (h1284.1 96 9).toInt = (h1176.1 96 9).toInt := by rw [g1285, wI_at (by decide)]
                          have s1292 : (h1284.1 96 11).toInt = 0 := by rw [g1285, wI_is]; rfl
                          have lp1294 : ∀ (n1293 : Nat) (h1295 : PH), INV h1295 → FR [96] h h1295 → FR [96] h1284 h1295 → (h1295.1 96 7).toInt = (h1284.1 96 7).toInt → (h1295.1 96 5).toInt = (h1284.1 96 5).toInt → (h1295.1 96 12).toInt = (h1284.1 96 12).toInt → (h1295.1 96 13).toInt = (h1284.1 96 13).toInt → (h1295.1 96 9).toInt = (h1284.1 96 9).toInt → 0 ≤ (h1295.1 96 8).toInt ∧ (h1295.1 96 8).toInt ≤ 500 → (h1295.1 96 11).toInt ≤ 99999 → (h1284.1 96 9).toInt ≤ (h1295.1 96 8).toInt + 0 → (500 - (h1295.1 96 8).toInt).toNat < n1293 → RUN d_X9_advance 144 [(1, .inl x1187), (0, .inr (.inr (.inl 96)))] [] h1295 (q_X9_advance h) := by
                            intro n1293
                            induction n1293 with
                            | zero => intro h1295 m1298 m1299 m1300 m1301 m1302 m1303 m1304 m1305 m1306 m1307 m1308 hz; exact absurd hz (Nat.not_lt_zero _)
                            | succ n1293 ih1297 =>
                              intro h1295 hI fr fl1296 m1301 m1302 m1303 m1304 m1305 m1306 m1307 m1308 hz
                              have fl8 : FR [96] h h1295 := fl8.trans fl1296 (by decide)
                              refine R_aload_n (k := 0) rfl rfl rfl ?_
                              refine R_aload_n (k := 0) rfl rfl rfl ?_
                              refine R_getf_i (j := 8) rfl ft_9_142 sh_96 rfl ?_
                              refine R_callV (v := .inr (.inr (.inl 96))) (As := [.inl (h1295.1 96 8)]) (rest := []) rfl mt_9_i145 pp_X9_see (by decide) rfl rfl rfl (Nat.le_of_ble_eq_true rfl) (Nat.le_of_ble_eq_true rfl) ((k_X9_see h1295 hI (h1295.1 96 8) (by omega)).mono (fun r1309 h1310 p1311 => ?_))
                              obtain ⟨rfl, x1312, rfl, q1313 | q1313⟩ := p1311
                              · show RUN d_X9_advance 152 [(1, .inl x1187), (0, .inr (.inr (.inl 96)))] [.inl x1312] h1295 _
                                refine N_i2l rfl (fun w1314 q1315 => ?_)
                                refine R_ldc2 (x := 48) rfl kt_9_159 ?_
                                refine R_ldc2 (x := 57) rfl kt_9_161 ?_
                                have k1316 : (48 : Int64).toInt = 48 := by decide
                                have k1317 : (57 : Int64).toInt = 57 := by decide
                                refine R_callS (As := [.inr (.inl w1314), .inr (.inl 48), .inr (.inl 57)]) (rest := []) rfl mt_9_i125 (by decide) pp_X9_in (by decide) rfl rfl (Nat.le_of_ble_eq_true rfl) (Nat.le_of_ble_eq_true rfl) ((k_X9_in h1295 hI w1314 (48 : Int64) (57 : Int64)).mono (fun r1318 h1319 p1320 => ?_))
                                obtain ⟨rfl, x1321, rfl, q1322 | q1322 | q1322⟩ := p1320
                                · show RUN d_X9_advance 162 [(1, .inl x1187), (0, .inr (.inr (.inl 96)))] [.inl x1321] h1295 _
                                  refine N_if_eq (a := x1321.toInt) 206 rfl rfl rfl (fun c1323 => ?_) (fun c1323 => ?_)
                                  · refine R_aload_n (k := 0) rfl rfl rfl ?_
                                    refine R_iconst 2 rfl rfl ?_
                                    refine K_putf (j := 10) (lo := (-2147483648)) (hi' := 2147483647) rfl ft_9_152 sh_96 rfl hI (by decide) rfl (by decide) fr (by decide) (fun h1324 g1325 hI fr => ?_)
                                    have fl1296 : FR [96] h1284 h1324 := by rw [g1325]; exact FR_wI _ _ fl1296 (by decide)
                                    have fl8 : FR [96] h h1324 := by rw [g1325]; exact FR_wI _ _ fl8 (by decide)
                                    have s1326 : (h1324.1 96 7).toInt = (h1295.1 96 7).toInt := by rw [g1325, wI_at (by decide)]
                                    have s1327 : (h1324.1 96 5).toInt = (h1295.1 96 5).toInt := by rw [g1325, wI_at (by decide)]
                                    have s1328 : (h1324.1 96 8).toInt = (h1295.1 96 8).toInt := by rw [g1325, wI_at (by decide)]
                                    have s1329 : (h1324.1 96 12).toInt = (h1295.1 96 12).toInt := by rw [g1325, wI_at (by decide)]
                                    have s1330 : (h1324.1 96 13).toInt = (h1295.1 96 13).toInt := by rw [g1325, wI_at (by decide)]
                                    have s1331 : (h1324.1 96 9).toInt = (h1295.1 96 9).toInt := by rw [g1325, wI_at (by decide)]
                                    have s1332 : (h1324.1 96 11).toInt = (h1295.1 96 11).toInt := by rw [g1325, wI_at (by decide)]
                                    have s1333 : (h1324.1 96 10).toInt = 2 := by rw [g1325, wI_is]; rfl
                                    refine R_goto 239 rfl rfl ?_
                                    exact R_vret rfl rfl ⟨hI, fr, ⟨by omega, by omega, by omega, by omega, trivial⟩, rfl⟩
                                  · exfalso; omega
                                · exfalso; omega
                                · exfalso; omega
                              · show RUN d_X9_advance 152 [(1, .inl x1187), (0, .inr (.inr (.inl 96)))] [.inl x1312] h1295 _
                                refine N_i2l rfl (fun w1334 q1335 => ?_)
                                refine R_ldc2 (x := 48) rfl kt_9_159 ?_
                                refine R_ldc2 (x := 57) rfl kt_9_161 ?_
                                have k1336 : (48 : Int64).toInt = 48 := by decide
                                have k1337 : (57 : Int64).toInt = 57 := by decide
                                refine R_callS (As := [.inr (.inl w1334), .inr (.inl 48), .inr (.inl 57)]) (rest := []) rfl mt_9_i125 (by decide) pp_X9_in (by decide) rfl rfl (Nat.le_of_ble_eq_true rfl) (Nat.le_of_ble_eq_true rfl) ((k_X9_in h1295 hI w1334 (48 : Int64) (57 : Int64)).mono (fun r1338 h1339 p1340 => ?_))
                                obtain ⟨rfl, x1341, rfl, q1342 | q1342 | q1342⟩ := p1340
                                · show RUN d_X9_advance 162 [(1, .inl x1187), (0, .inr (.inr (.inl 96)))] [.inl x1341] h1295 _
                                  refine N_if_eq (a := x1341.toInt) 206 rfl rfl rfl (fun c1343 => ?_) (fun c1343 => ?_)
                                  · refine R_aload_n (k := 0) rfl rfl rfl ?_
                                    refine R_iconst 2 rfl rfl ?_
                                    refine K_putf (j := 10) (lo := (-2147483648)) (hi' := 2147483647) rfl ft_9_152 sh_96 rfl hI (by decide) rfl (by decide) fr (by decide) (fun h1344 g1345 hI fr => ?_)
                                    have fl1296 : FR [96] h1284 h1344 := by rw [g1345]; exact FR_wI _ _ fl1296 (by decide)
                                    have fl8 : FR [96] h h1344 := by rw [g1345]; exact FR_wI _ _ fl8 (by decide)
                                    have s1346 : (h1344.1 96 7).toInt = (h1295.1 96 7).toInt := by rw [g1345, wI_at (by decide)]
                                    have s1347 : (h1344.1 96 5).toInt = (h1295.1 96 5).toInt := by rw [g1345, wI_at (by decide)]
                                    have s1348 : (h1344.1 96 8).toInt = (h1295.1 96 8).toInt := by rw [g1345, wI_at (by decide)]
                                    have s1349 : (h1344.1 96 12).toInt = (h1295.1 96 12).toInt := by rw [g1345, wI_at (by decide)]
                                    have s1350 : (h1344.1 96 13).toInt = (h1295.1 96 13).toInt := by rw [g1345, wI_at (by decide)]
                                    have s1351 : (h1344.1 96 9).toInt = (h1295.1 96 9).toInt := by rw [g1345, wI_at (by decide)]
                                    have s1352 : (h1344.1 96 11).toInt = (h1295.1 96 11).toInt := by rw [g1345, wI_at (by decide)]
                                    have s1353 : (h1344.1 96 10).toInt = 2 := by rw [g1345, wI_is]; rfl
                                    refine R_goto 239 rfl rfl ?_
                                    exact R_vret rfl rfl ⟨hI, fr, ⟨by omega, by omega, by omega, by omega, trivial⟩, rfl⟩
                                  · exfalso; omega
                                · show RUN d_X9_advance 162 [(1, .inl x1187), (0, .inr (.inr (.inl 96)))] [.inl x1341] h1295 _
                                  refine N_if_eq (a := x1341.toInt) 206 rfl rfl rfl (fun c1354 => ?_) (fun c1354 => ?_)
                                  · refine R_aload_n (k := 0) rfl rfl rfl ?_
                                    refine R_iconst 2 rfl rfl ?_
                                    refine K_putf (j := 10) (lo := (-2147483648)) (hi' := 2147483647) rfl ft_9_152 sh_96 rfl hI (by decide) rfl (by decide) fr (by decide) (fun h1355 g1356 hI fr => ?_)
                                    have fl1296 : FR [96] h1284 h1355 := by rw [g1356]; exact FR_wI _ _ fl1296 (by decide)
                                    have fl8 : FR [96] h h1355 := by rw [g1356]; exact FR_wI _ _ fl8 (by decide)
                                    have s1357 : (h1355.1 96 7).toInt = (h1295.1 96 7).toInt := by rw [g1356, wI_at (by decide)]
                                    have s1358 : (h1355.1 96 5).toInt = (h1295.1 96 5).toInt := by rw [g1356, wI_at (by decide)]
                                    have s1359 : (h1355.1 96 8).toInt = (h1295.1 96 8).toInt := by rw [g1356, wI_at (by decide)]
                                    have s1360 : (h1355.1 96 12).toInt = (h1295.1 96 12).toInt := by rw [g1356, wI_at (by decide)]
                                    have s1361 : (h1355.1 96 13).toInt = (h1295.1 96 13).toInt := by rw [g1356, wI_at (by decide)]
                                    have s1362 : (h1355.1 96 9).toInt = (h1295.1 96 9).toInt := by rw [g1356, wI_at (by decide)]
                                    have s1363 : (h1355.1 96 11).toInt = (h1295.1 96 11).toInt := by rw [g1356, wI_at (by decide)]
                                    have s1364 : (h1355.1 96 10).toInt = 2 := by rw [g1356, wI_is]; rfl
                                    refine R_goto 239 rfl rfl ?_
                                    exact R_vret rfl rfl ⟨hI, fr, ⟨by omega, by omega, by omega, by omega, trivial⟩, rfl⟩
                                  · exfalso; omega
                                · show RUN d_X9_advance 162 [(1, .inl x1187), (0, .inr (.inr (.inl 96)))] [.inl x1341] h1295 _
                                  refine N_if_eq (a := x1341.toInt) 206 rfl rfl rfl (fun c1365 => ?_) (fun c1365 => ?_)
                                  · exfalso; omega
                                  · refine R_aload_n (k := 0) rfl rfl rfl ?_
                                    refine R_ldc_i (x := 99999) rfl kt_9_166 ?_
                                    refine R_bipush 10 rfl rfl ?_
                                    refine R_aload_n (k := 0) rfl rfl rfl ?_
                                    refine R_getf_i (j := 11) rfl ft_9_163 sh_96 rfl ?_
                                    have b1366 := i_rng (h1295.1 96 11)
                                    refine R_imul rfl ?_
                                    refine N_any (fun x1367 => ?_)
                                    refine R_aload_n (k := 0) rfl rfl rfl ?_
                                    refine R_aload_n (k := 0) rfl rfl rfl ?_
                                    refine R_getf_i (j := 8) rfl ft_9_142 sh_96 rfl ?_
                                    refine R_callV (v := .inr (.inr (.inl 96))) (As := [.inl (h1295.1 96 8)]) (rest := [.inl x1367, .inl 99999, .inr (.inr (.inl 96))]) rfl mt_9_i145 pp_X9_see (by decide) rfl rfl rfl (Nat.le_of_ble_eq_true rfl) (Nat.le_of_ble_eq_true rfl) ((k_X9_see h1295 hI (h1295.1 96 8) (by omega)).mono (fun r1368 h1369 p1370 => ?_))
                                    obtain ⟨rfl, x1371, rfl, q1372 | q1372⟩ := p1370
                                    · show RUN d_X9_advance 183 [(1, .inl x1187), (0, .inr (.inr (.inl 96)))] [.inl x1371, .inl x1367, .inl 99999, .inr (.inr (.inl 96))] h1295 _
                                      have b1373 := i_rng x1367
                                      refine R_iadd rfl ?_
                                      refine N_any (fun x1374 => ?_)
                                      refine R_bipush 48 rfl rfl ?_
                                      have b1375 := i_rng x1374
                                      refine R_isub rfl ?_
                                      refine N_any (fun x1376 => ?_)
                                      refine N_min (a := 99999) (b := x1376.toInt) rfl mt_9_i167 (by decide) rfl ⟨by decide, by decide, Nat.le_of_ble_eq_true rfl⟩ (fun x1377 q1378 => ?_)
                                      refine K_putf (j := 11) (lo := (-2147483648)) (hi' := 2147483647) rfl ft_9_163 sh_96 rfl hI (by decide) rfl (i_rng _) fr (by decide) (fun h1379 g1380 hI fr => ?_)
                                      have fl1296 : FR [96] h1284 h1379 := by rw [g1380]; exact FR_wI _ _ fl1296 (by decide)
                                      have fl8 : FR [96] h h1379 := by rw [g1380]; exact FR_wI _ _ fl8 (by decide)
                                      have s1381 : (h1379.1 96 7).toInt = (h1295.1 96 7).toInt := by rw [g1380, wI_at (by decide)]
                                      have s1382 : (h1379.1 96 5).toInt = (h1295.1 96 5).toInt := by rw [g1380, wI_at (by decide)]
                                      have s1383 : (h1379.1 96 8).toInt = (h1295.1 96 8).toInt := by rw [g1380, wI_at (by decide)]
                                      have s1384 : (h1379.1 96 12).toInt = (h1295.1 96 12).toInt := by rw [g1380, wI_at (by decide)]
                                      have s1385 : (h1379.1 96 13).toInt = (h1295.1 96 13).toInt := by rw [g1380, wI_at (by decide)]
                                      have s1386 : (h1379.1 96 9).toInt = (h1295.1 96 9).toInt := by rw [g1380, wI_at (by decide)]
                                      have s1387 : (h1379.1 96 11).toInt = x1377.toInt := by rw [g1380, wI_is]
                                      refine R_aload_n (k := 0) rfl rfl rfl ?_
                                      refine R_dup_r rfl ?_
                                      refine R_getf_i (j := 8) rfl ft_9_142 sh_96 rfl ?_
                                      refine R_iconst 1 rfl rfl ?_
                                      refine N_iadd (a := (h1379.1 96 8).toInt) (b := 1) rfl rfl (by decide) (by omega) (fun x1388 q1389 => ?_)
                                      refine K_putf (j := 8) (lo := 0) (hi' := 500) rfl ft_9_142 sh_96 rfl hI (by decide) rfl (by omega) fr (by decide) (fun h1390 g1391 hI fr => ?_)
                                      have fl1296 : FR [96] h1284 h1390 := by rw [g1391]; exact FR_wI _ _ fl1296 (by decide)
                                      have fl8 : FR [96] h h1390 := by rw [g1391]; exact FR_wI _ _ fl8 (by decide)
                                      have s1392 : (h1390.1 96 7).toInt = (h1379.1 96 7).toInt := by rw [g1391, wI_at (by decide)]
                                      have s1393 : (h1390.1 96 5).toInt = (h1379.1 96 5).toInt := by rw [g1391, wI_at (by decide)]
                                      have s1394 : (h1390.1 96 12).toInt = (h1379.1 96 12).toInt := by rw [g1391, wI_at (by decide)]
                                      have s1395 : (h1390.1 96 13).toInt = (h1379.1 96 13).toInt := by rw [g1391, wI_at (by decide)]
                                      have s1396 : (h1390.1 96 9).toInt = (h1379.1 96 9).toInt := by rw [g1391, wI_at (by decide)]
                                      have s1397 : (h1390.1 96 11).toInt = (h1379.1 96 11).toInt := by rw [g1391, wI_at (by decide)]
                                      have s1398 : (h1390.1 96 8).toInt = x1388.toInt := by rw [g1391, wI_is]
                                      refine R_goto 144 rfl rfl ?_
                                      exact RUN_weak (psub_cons rfl (psub_cons rfl (psub_nil _))) (ih1297 h1390 hI fr fl1296 (by omega) (by omega) (by omega) (by omega) (by omega) (by omega) (by omega) (by omega) (by omega))
                                    · show RUN d_X9_advance 183 [(1, .inl x1187), (0, .inr (.inr (.inl 96)))] [.inl x1371, .inl x1367, .inl 99999, .inr (.inr (.inl 96))] h1295 _
                                      have b1399 := i_rng x1367
                                      refine R_iadd rfl ?_
                                      refine N_any (fun x1400 => ?_)
                                      refine R_bipush 48 rfl rfl ?_
                                      have b1401 := i_rng x1400
                                      refine R_isub rfl ?_
                                      refine N_any (fun x1402 => ?_)
                                      refine N_min (a := 99999) (b := x1402.toInt) rfl mt_9_i167 (by decide) rfl ⟨by decide, by decide, Nat.le_of_ble_eq_true rfl⟩ (fun x1403 q1404 => ?_)
                                      refine K_putf (j := 11) (lo := (-2147483648)) (hi' := 2147483647) rfl ft_9_163 sh_96 rfl hI (by decide) rfl (i_rng _) fr (by decide) (fun h1405 g1406 hI fr => ?_)
                                      have fl1296 : FR [96] h1284 h1405 := by rw [g1406]; exact FR_wI _ _ fl1296 (by decide)
                                      have fl8 : FR [96] h h1405 := by rw [g1406]; exact FR_wI _ _ fl8 (by decide)
                                      have s1407 : (h1405.1 96 7).toInt = (h1295.1 96 7).toInt := by rw [g1406, wI_at (by decide)]
                                      have s1408 : (h1405.1 96 5).toInt = (h1295.1 96 5).toInt := by rw [g1406, wI_at (by decide)]
                                      have s1409 : (h1405.1 96 8).toInt = (h1295.1 96 8).toInt := by rw [g1406, wI_at (by decide)]
                                      have s1410 : (h1405.1 96 12).toInt = (h1295.1 96 12).toInt := by rw [g1406, wI_at (by decide)]
                                      have s1411 : (h1405.1 96 13).toInt = (h1295.1 96 13).toInt := by rw [g1406, wI_at (by decide)]
                                      have s1412 : (h1405.1 96 9).toInt = (h1295.1 96 9).toInt := by rw [g1406, wI_at (by decide)]
                                      have s1413 : (h1405.1 96 11).toInt = x1403.toInt := by rw [g1406, wI_is]
                                      refine R_aload_n (k := 0) rfl rfl rfl ?_
                                      refine R_dup_r rfl ?_
                                      refine R_getf_i (j := 8) rfl ft_9_142 sh_96 rfl ?_
                                      refine R_iconst 1 rfl rfl ?_
                                      refine N_iadd (a := (h1405.1 96 8).toInt) (b := 1) rfl rfl (by decide) (by omega) (fun x1414 q1415 => ?_)
                                      refine K_putf (j := 8) (lo := 0) (hi' := 500) rfl ft_9_142 sh_96 rfl hI (by decide) rfl (by omega) fr (by decide) (fun h1416 g1417 hI fr => ?_)
                                      have fl1296 : FR [96] h1284 h1416 := by rw [g1417]; exact FR_wI _ _ fl1296 (by decide)
                                      have fl8 : FR [96] h h1416 := by rw [g1417]; exact FR_wI _ _ fl8 (by decide)
                                      have s1418 : (h1416.1 96 7).toInt = (h1405.1 96 7).toInt := by rw [g1417, wI_at (by decide)]
                                      have s1419 : (h1416.1 96 5).toInt = (h1405.1 96 5).toInt := by rw [g1417, wI_at (by decide)]
                                      have s1420 : (h1416.1 96 12).toInt = (h1405.1 96 12).toInt := by rw [g1417, wI_at (by decide)]
                                      have s1421 : (h1416.1 96 13).toInt = (h1405.1 96 13).toInt := by rw [g1417, wI_at (by decide)]
                                      have s1422 : (h1416.1 96 9).toInt = (h1405.1 96 9).toInt := by rw [g1417, wI_at (by decide)]
                                      have s1423 : (h1416.1 96 11).toInt = (h1405.1 96 11).toInt := by rw [g1417, wI_at (by decide)]
                                      have s1424 : (h1416.1 96 8).toInt = x1414.toInt := by rw [g1417, wI_is]
                                      refine R_goto 144 rfl rfl ?_
                                      exact RUN_weak (psub_cons rfl (psub_cons rfl (psub_nil _))) (ih1297 h1416 hI fr fl1296 (by omega) (by omega) (by omega) (by omega) (by omega) (by omega) (by omega) (by omega) (by omega))
                          exact lp1294 _ h1284 hI fr (FR.rf _ _) rfl rfl rfl rfl rfl (by omega) (by omega) (by omega) (Nat.lt_succ_self _)
                    · exfalso; omega
                  · show RUN d_X9_advance 80 [(1, .inl x1187), (0, .inr (.inr (.inl 96)))] [.inl x1207] h1176 _
                    refine N_if_eq (a := x1207.toInt) 125 rfl rfl rfl (fun c1425 => ?_) (fun c1425 => ?_)
                    · refine R_iload_n (k := 1) rfl rfl rfl ?_
                      refine N_i2l rfl (fun w1426 q1427 => ?_)
                      refine R_ldc2 (x := 48) rfl kt_9_159 ?_
                      refine R_ldc2 (x := 57) rfl kt_9_161 ?_
                      have k1428 : (48 : Int64).toInt = 48 := by decide
                      have k1429 : (57 : Int64).toInt = 57 := by decide
                      refine R_callS (As := [.inr (.inl w1426), .inr (.inl 48), .inr (.inl 57)]) (rest := []) rfl mt_9_i125 (by decide) pp_X9_in (by decide) rfl rfl (Nat.le_of_ble_eq_true rfl) (Nat.le_of_ble_eq_true rfl) ((k_X9_in h1176 hI w1426 (48 : Int64) (57 : Int64)).mono (fun r1430 h1431 p1432 => ?_))
                      obtain ⟨rfl, x1433, rfl, q1434 | q1434 | q1434⟩ := p1432
                      · exfalso; omega
                      · show RUN d_X9_advance 136 [(1, .inl x1187), (0, .inr (.inr (.inl 96)))] [.inl x1433] h1176 _
                        refine N_if_eq (a := x1433.toInt) 214 rfl rfl rfl (fun c1435 => ?_) (fun c1435 => ?_)
                        · refine R_aload_n (k := 0) rfl rfl rfl ?_
                          refine R_iload_n (k := 1) rfl rfl rfl ?_
                          refine R_bipush 59 rfl rfl ?_
                          refine N_icmp_ne (a := x1187.toInt) (b := 59) 225 rfl rfl rfl (by decide) (fun c1436 => ?_) (fun c1436 => ?_)
                          · refine R_iconst 4 rfl rfl ?_
                            refine K_putf (j := 10) (lo := (-2147483648)) (hi' := 2147483647) rfl ft_9_152 sh_96 rfl hI (by decide) rfl (by decide) fr (by decide) (fun h1437 g1438 hI fr => ?_)
                            have fl8 : FR [96] h h1437 := by rw [g1438]; exact FR_wI _ _ fl8 (by decide)
                            have s1439 : (h1437.1 96 7).toInt = (h1176.1 96 7).toInt := by rw [g1438, wI_at (by decide)]
                            have s1440 : (h1437.1 96 5).toInt = (h1176.1 96 5).toInt := by rw [g1438, wI_at (by decide)]
                            have s1441 : (h1437.1 96 8).toInt = (h1176.1 96 8).toInt := by rw [g1438, wI_at (by decide)]
                            have s1442 : (h1437.1 96 12).toInt = (h1176.1 96 12).toInt := by rw [g1438, wI_at (by decide)]
                            have s1443 : (h1437.1 96 13).toInt = (h1176.1 96 13).toInt := by rw [g1438, wI_at (by decide)]
                            have s1444 : (h1437.1 96 9).toInt = (h1176.1 96 9).toInt := by rw [g1438, wI_at (by decide)]
                            have s1445 : (h1437.1 96 10).toInt = 4 := by rw [g1438, wI_is]; rfl
                            refine R_aload_n (k := 0) rfl rfl rfl ?_
                            refine R_dup_r rfl ?_
                            refine R_getf_i (j := 8) rfl ft_9_142 sh_96 rfl ?_
                            refine R_iconst 1 rfl rfl ?_
                            refine N_iadd (a := (h1437.1 96 8).toInt) (b := 1) rfl rfl (by decide) (by omega) (fun x1446 q1447 => ?_)
                            refine K_putf (j := 8) (lo := 0) (hi' := 500) rfl ft_9_142 sh_96 rfl hI (by decide) rfl (by omega) fr (by decide) (fun h1448 g1449 hI fr => ?_)
                            have fl8 : FR [96] h h1448 := by rw [g1449]; exact FR_wI _ _ fl8 (by decide)
                            have s1450 : (h1448.1 96 7).toInt = (h1437.1 96 7).toInt := by rw [g1449, wI_at (by decide)]
                            have s1451 : (h1448.1 96 5).toInt = (h1437.1 96 5).toInt := by rw [g1449, wI_at (by decide)]
                            have s1452 : (h1448.1 96 12).toInt = (h1437.1 96 12).toInt := by rw [g1449, wI_at (by decide)]
                            have s1453 : (h1448.1 96 13).toInt = (h1437.1 96 13).toInt := by rw [g1449, wI_at (by decide)]
                            have s1454 : (h1448.1 96 9).toInt = (h1437.1 96 9).toInt := by rw [g1449, wI_at (by decide)]
                            have s1455 : (h1448.1 96 10).toInt = (h1437.1 96 10).toInt := by rw [g1449, wI_at (by decide)]
                            have s1456 : (h1448.1 96 8).toInt = x1446.toInt := by rw [g1449, wI_is]
                            exact R_vret rfl rfl ⟨hI, fr, ⟨by omega, by omega, by omega, by omega, trivial⟩, rfl⟩
                          · exfalso; omega
                        · exfalso; omega
                      · exfalso; omega
                    · exfalso; omega
                  · show RUN d_X9_advance 80 [(1, .inl x1187), (0, .inr (.inr (.inl 96)))] [.inl x1207] h1176 _
                    refine N_if_eq (a := x1207.toInt) 125 rfl rfl rfl (fun c1457 => ?_) (fun c1457 => ?_)
                    · exfalso; omega
                    · have lp1459 : ∀ (n1458 : Nat) (h1460 : PH), INV h1460 → FR [96] h h1460 → FR [96] h1176 h1460 → (h1460.1 96 7).toInt = (h1176.1 96 7).toInt → (h1460.1 96 5).toInt = (h1176.1 96 5).toInt → (h1460.1 96 12).toInt = (h1176.1 96 12).toInt → (h1460.1 96 13).toInt = (h1176.1 96 13).toInt → (h1460.1 96 9).toInt = (h1176.1 96 9).toInt → 0 ≤ (h1460.1 96 8).toInt ∧ (h1460.1 96 8).toInt ≤ 500 → (h1176.1 96 9).toInt ≤ (h1460.1 96 8).toInt + 0 → (500 - (h1460.1 96 8).toInt).toNat < n1458 → RUN d_X9_advance 83 [(1, .inl x1187), (0, .inr (.inr (.inl 96)))] [] h1460 (q_X9_advance h) := by
                        intro n1458
                        induction n1458 with
                        | zero => intro h1460 m1463 m1464 m1465 m1466 m1467 m1468 m1469 m1470 m1471 m1472 hz; exact absurd hz (Nat.not_lt_zero _)
                        | succ n1458 ih1462 =>
                          intro h1460 hI fr fl1461 m1466 m1467 m1468 m1469 m1470 m1471 m1472 hz
                          have fl8 : FR [96] h h1460 := fl8.trans fl1461 (by decide)
                          refine R_aload_n (k := 0) rfl rfl rfl ?_
                          refine R_aload_n (k := 0) rfl rfl rfl ?_
                          refine R_getf_i (j := 8) rfl ft_9_142 sh_96 rfl ?_
                          refine R_callV (v := .inr (.inr (.inl 96))) (As := [.inl (h1460.1 96 8)]) (rest := []) rfl mt_9_i145 pp_X9_see (by decide) rfl rfl rfl (Nat.le_of_ble_eq_true rfl) (Nat.le_of_ble_eq_true rfl) ((k_X9_see h1460 hI (h1460.1 96 8) (by omega)).mono (fun r1473 h1474 p1475 => ?_))
                          obtain ⟨rfl, x1476, rfl, q1477 | q1477⟩ := p1475
                          · show RUN d_X9_advance 91 [(1, .inl x1187), (0, .inr (.inr (.inl 96)))] [.inl x1476] h1460 _
                            refine N_i2l rfl (fun w1478 q1479 => ?_)
                            refine R_ldc2 (x := 97) rfl kt_9_155 ?_
                            refine R_ldc2 (x := 122) rfl kt_9_157 ?_
                            have k1480 : (97 : Int64).toInt = 97 := by decide
                            have k1481 : (122 : Int64).toInt = 122 := by decide
                            refine R_callS (As := [.inr (.inl w1478), .inr (.inl 97), .inr (.inl 122)]) (rest := []) rfl mt_9_i125 (by decide) pp_X9_in (by decide) rfl rfl (Nat.le_of_ble_eq_true rfl) (Nat.le_of_ble_eq_true rfl) ((k_X9_in h1460 hI w1478 (97 : Int64) (122 : Int64)).mono (fun r1482 h1483 p1484 => ?_))
                            obtain ⟨rfl, x1485, rfl, q1486 | q1486 | q1486⟩ := p1484
                            · show RUN d_X9_advance 101 [(1, .inl x1187), (0, .inr (.inr (.inl 96)))] [.inl x1485] h1460 _
                              refine N_if_eq (a := x1485.toInt) 117 rfl rfl rfl (fun c1487 => ?_) (fun c1487 => ?_)
                              · refine R_aload_n (k := 0) rfl rfl rfl ?_
                                refine R_iconst 1 rfl rfl ?_
                                refine K_putf (j := 10) (lo := (-2147483648)) (hi' := 2147483647) rfl ft_9_152 sh_96 rfl hI (by decide) rfl (by decide) fr (by decide) (fun h1488 g1489 hI fr => ?_)
                                have fl1461 : FR [96] h1176 h1488 := by rw [g1489]; exact FR_wI _ _ fl1461 (by decide)
                                have fl8 : FR [96] h h1488 := by rw [g1489]; exact FR_wI _ _ fl8 (by decide)
                                have s1490 : (h1488.1 96 7).toInt = (h1460.1 96 7).toInt := by rw [g1489, wI_at (by decide)]
                                have s1491 : (h1488.1 96 5).toInt = (h1460.1 96 5).toInt := by rw [g1489, wI_at (by decide)]
                                have s1492 : (h1488.1 96 8).toInt = (h1460.1 96 8).toInt := by rw [g1489, wI_at (by decide)]
                                have s1493 : (h1488.1 96 12).toInt = (h1460.1 96 12).toInt := by rw [g1489, wI_at (by decide)]
                                have s1494 : (h1488.1 96 13).toInt = (h1460.1 96 13).toInt := by rw [g1489, wI_at (by decide)]
                                have s1495 : (h1488.1 96 9).toInt = (h1460.1 96 9).toInt := by rw [g1489, wI_at (by decide)]
                                have s1496 : (h1488.1 96 10).toInt = 1 := by rw [g1489, wI_is]; rfl
                                refine R_goto 239 rfl rfl ?_
                                exact R_vret rfl rfl ⟨hI, fr, ⟨by omega, by omega, by omega, by omega, trivial⟩, rfl⟩
                              · exfalso; omega
                            · exfalso; omega
                            · exfalso; omega
                          · show RUN d_X9_advance 91 [(1, .inl x1187), (0, .inr (.inr (.inl 96)))] [.inl x1476] h1460 _
                            refine N_i2l rfl (fun w1497 q1498 => ?_)
                            refine R_ldc2 (x := 97) rfl kt_9_155 ?_
                            refine R_ldc2 (x := 122) rfl kt_9_157 ?_
                            have k1499 : (97 : Int64).toInt = 97 := by decide
                            have k1500 : (122 : Int64).toInt = 122 := by decide
                            refine R_callS (As := [.inr (.inl w1497), .inr (.inl 97), .inr (.inl 122)]) (rest := []) rfl mt_9_i125 (by decide) pp_X9_in (by decide) rfl rfl (Nat.le_of_ble_eq_true rfl) (Nat.le_of_ble_eq_true rfl) ((k_X9_in h1460 hI w1497 (97 : Int64) (122 : Int64)).mono (fun r1501 h1502 p1503 => ?_))
                            obtain ⟨rfl, x1504, rfl, q1505 | q1505 | q1505⟩ := p1503
                            · show RUN d_X9_advance 101 [(1, .inl x1187), (0, .inr (.inr (.inl 96)))] [.inl x1504] h1460 _
                              refine N_if_eq (a := x1504.toInt) 117 rfl rfl rfl (fun c1506 => ?_) (fun c1506 => ?_)
                              · refine R_aload_n (k := 0) rfl rfl rfl ?_
                                refine R_iconst 1 rfl rfl ?_
                                refine K_putf (j := 10) (lo := (-2147483648)) (hi' := 2147483647) rfl ft_9_152 sh_96 rfl hI (by decide) rfl (by decide) fr (by decide) (fun h1507 g1508 hI fr => ?_)
                                have fl1461 : FR [96] h1176 h1507 := by rw [g1508]; exact FR_wI _ _ fl1461 (by decide)
                                have fl8 : FR [96] h h1507 := by rw [g1508]; exact FR_wI _ _ fl8 (by decide)
                                have s1509 : (h1507.1 96 7).toInt = (h1460.1 96 7).toInt := by rw [g1508, wI_at (by decide)]
                                have s1510 : (h1507.1 96 5).toInt = (h1460.1 96 5).toInt := by rw [g1508, wI_at (by decide)]
                                have s1511 : (h1507.1 96 8).toInt = (h1460.1 96 8).toInt := by rw [g1508, wI_at (by decide)]
                                have s1512 : (h1507.1 96 12).toInt = (h1460.1 96 12).toInt := by rw [g1508, wI_at (by decide)]
                                have s1513 : (h1507.1 96 13).toInt = (h1460.1 96 13).toInt := by rw [g1508, wI_at (by decide)]
                                have s1514 : (h1507.1 96 9).toInt = (h1460.1 96 9).toInt := by rw [g1508, wI_at (by decide)]
                                have s1515 : (h1507.1 96 10).toInt = 1 := by rw [g1508, wI_is]; rfl
                                refine R_goto 239 rfl rfl ?_
                                exact R_vret rfl rfl ⟨hI, fr, ⟨by omega, by omega, by omega, by omega, trivial⟩, rfl⟩
                              · exfalso; omega
                            · show RUN d_X9_advance 101 [(1, .inl x1187), (0, .inr (.inr (.inl 96)))] [.inl x1504] h1460 _
                              refine N_if_eq (a := x1504.toInt) 117 rfl rfl rfl (fun c1516 => ?_) (fun c1516 => ?_)
                              · refine R_aload_n (k := 0) rfl rfl rfl ?_
                                refine R_iconst 1 rfl rfl ?_
                                refine K_putf (j := 10) (lo := (-2147483648)) (hi' := 2147483647) rfl ft_9_152 sh_96 rfl hI (by decide) rfl (by decide) fr (by decide) (fun h1517 g1518 hI fr => ?_)
                                have fl1461 : FR [96] h1176 h1517 := by rw [g1518]; exact FR_wI _ _ fl1461 (by decide)
                                have fl8 : FR [96] h h1517 := by rw [g1518]; exact FR_wI _ _ fl8 (by decide)
                                have s1519 : (h1517.1 96 7).toInt = (h1460.1 96 7).toInt := by rw [g1518, wI_at (by decide)]
                                have s1520 : (h1517.1 96 5).toInt = (h1460.1 96 5).toInt := by rw [g1518, wI_at (by decide)]
                                have s1521 : (h1517.1 96 8).toInt = (h1460.1 96 8).toInt := by rw [g1518, wI_at (by decide)]
                                have s1522 : (h1517.1 96 12).toInt = (h1460.1 96 12).toInt := by rw [g1518, wI_at (by decide)]
                                have s1523 : (h1517.1 96 13).toInt = (h1460.1 96 13).toInt := by rw [g1518, wI_at (by decide)]
                                have s1524 : (h1517.1 96 9).toInt = (h1460.1 96 9).toInt := by rw [g1518, wI_at (by decide)]
                                have s1525 : (h1517.1 96 10).toInt = 1 := by rw [g1518, wI_is]; rfl
                                refine R_goto 239 rfl rfl ?_
                                exact R_vret rfl rfl ⟨hI, fr, ⟨by omega, by omega, by omega, by omega, trivial⟩, rfl⟩
                              · exfalso; omega
                            · show RUN d_X9_advance 101 [(1, .inl x1187), (0, .inr (.inr (.inl 96)))] [.inl x1504] h1460 _
                              refine N_if_eq (a := x1504.toInt) 117 rfl rfl rfl (fun c1526 => ?_) (fun c1526 => ?_)
                              · exfalso; omega
                              · refine R_aload_n (k := 0) rfl rfl rfl ?_
                                refine R_dup_r rfl ?_
                                refine R_getf_i (j := 8) rfl ft_9_142 sh_96 rfl ?_
                                refine R_iconst 1 rfl rfl ?_
                                refine N_iadd (a := (h1460.1 96 8).toInt) (b := 1) rfl rfl (by decide) (by omega) (fun x1527 q1528 => ?_)
                                refine K_putf (j := 8) (lo := 0) (hi' := 500) rfl ft_9_142 sh_96 rfl hI (by decide) rfl (by omega) fr (by decide) (fun h1529 g1530 hI fr => ?_)
                                have fl1461 : FR [96] h1176 h1529 := by rw [g1530]; exact FR_wI _ _ fl1461 (by decide)
                                have fl8 : FR [96] h h1529 := by rw [g1530]; exact FR_wI _ _ fl8 (by decide)
                                have s1531 : (h1529.1 96 7).toInt = (h1460.1 96 7).toInt := by rw [g1530, wI_at (by decide)]
                                have s1532 : (h1529.1 96 5).toInt = (h1460.1 96 5).toInt := by rw [g1530, wI_at (by decide)]
                                have s1533 : (h1529.1 96 12).toInt = (h1460.1 96 12).toInt := by rw [g1530, wI_at (by decide)]
                                have s1534 : (h1529.1 96 13).toInt = (h1460.1 96 13).toInt := by rw [g1530, wI_at (by decide)]
                                have s1535 : (h1529.1 96 9).toInt = (h1460.1 96 9).toInt := by rw [g1530, wI_at (by decide)]
                                have s1536 : (h1529.1 96 8).toInt = x1527.toInt := by rw [g1530, wI_is]
                                refine R_goto 83 rfl rfl ?_
                                exact RUN_weak (psub_cons rfl (psub_cons rfl (psub_nil _))) (ih1462 h1529 hI fr fl1461 (by omega) (by omega) (by omega) (by omega) (by omega) (by omega) (by omega) (by omega))
                      exact lp1459 _ h1176 hI fr (FR.rf _ _) rfl rfl rfl rfl rfl (by omega) (by omega) (Nat.lt_succ_self _)
                · exfalso; omega
            · refine R_aload_n (k := 0) rfl rfl rfl ?_
              refine R_dup_r rfl ?_
              refine R_getf_i (j := 8) rfl ft_9_142 sh_96 rfl ?_
              refine R_iconst 1 rfl rfl ?_
              refine N_iadd (a := (h7.1 96 8).toInt) (b := 1) rfl rfl (by decide) (by omega) (fun x1537 q1538 => ?_)
              refine K_putf (j := 8) (lo := 0) (hi' := 500) rfl ft_9_142 sh_96 rfl hI (by decide) rfl (by omega) fr (by decide) (fun h1539 g1540 hI fr => ?_)
              have fl8 : FR [96] h h1539 := by rw [g1540]; exact FR_wI _ _ fl8 (by decide)
              have s1541 : (h1539.1 96 7).toInt = (h7.1 96 7).toInt := by rw [g1540, wI_at (by decide)]
              have s1542 : (h1539.1 96 5).toInt = (h7.1 96 5).toInt := by rw [g1540, wI_at (by decide)]
              have s1543 : (h1539.1 96 12).toInt = (h7.1 96 12).toInt := by rw [g1540, wI_at (by decide)]
              have s1544 : (h1539.1 96 13).toInt = (h7.1 96 13).toInt := by rw [g1540, wI_at (by decide)]
              have s1545 : (h1539.1 96 8).toInt = x1537.toInt := by rw [g1540, wI_is]
              refine R_goto 0 rfl rfl ?_
              exact RUN_weak (psub_cons rfl (psub_nil _)) (ih9 h1539 hI fr fl8 (by omega) (by omega) (by omega) (by omega) (by omega) (by omega))
  exact lp6 _ h hI fr (FR.rf _ _) rfl rfl rfl rfl (by omega) (Nat.lt_succ_self _)
