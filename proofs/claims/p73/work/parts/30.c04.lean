abbrev q_X9_keepState (h : PH)  : Option PV → PH → Prop := fun r h' => INV h' ∧ FR [121] h h' ∧ r = none
set_option maxHeartbeats 4000000 in
set_option maxRecDepth 100000 in
theorem k_X9_keepState (h : PH) (hI : INV h)  : CALL d_X9_keepState [.inr (.inr (.inl 96)), .inr (.inr (.inl 121))] h (q_X9_keepState h) := by
  show RUN d_X9_keepState 0 [(0, .inr (.inr (.inl 96))), (1, .inr (.inr (.inl 121)))] [] h _
  have fr : FR [121] h h := FR.rf _ _
  refine R_iconst 0 rfl rfl ?_
  refine R_istore_n (k := 2) rfl [(2, .inl 0), (0, .inr (.inr (.inl 96))), (1, .inr (.inr (.inl 121)))] rfl rfl (by decide) ?_
  have lp2 : ∀ (n1 : Nat) (h3 : PH) (x5 : Int32), INV h3 → FR [121] h h3 → FR [121] h h3 → 0 ≤ x5.toInt ∧ x5.toInt ≤ 2147483647 → (2147483647 - x5.toInt).toNat < n1 → RUN d_X9_keepState 2 [(2, .inl x5), (0, .inr (.inr (.inl 96))), (1, .inr (.inr (.inl 121)))] [] h3 (q_X9_keepState h) := by
    intro n1
    induction n1 with
    | zero => intro h3 x5 m7 m8 m9 m10 hz; exact absurd hz (Nat.not_lt_zero _)
    | succ n1 ih6 =>
      intro h3 x5 hI fr fl4 m10 hz
      refine R_iload_n (k := 2) rfl rfl rfl ?_
      refine R_bipush 6 rfl rfl ?_
      refine N_icmp_ge (a := x5.toInt) (b := 6) 32 rfl rfl rfl (by decide) (fun c11 => ?_) (fun c11 => ?_)
      · refine R_iconst 0 rfl rfl ?_
        refine R_istore_n (k := 2) rfl [(2, .inl 0), (0, .inr (.inr (.inl 96))), (1, .inr (.inr (.inl 121)))] rfl rfl (by decide) ?_
        have lp13 : ∀ (n12 : Nat) (h14 : PH) (x16 : Int32), INV h14 → FR [121] h h14 → FR [121] h3 h14 → 0 ≤ x16.toInt ∧ x16.toInt ≤ 2147483647 → (2147483647 - x16.toInt).toNat < n12 → RUN d_X9_keepState 34 [(2, .inl x16), (0, .inr (.inr (.inl 96))), (1, .inr (.inr (.inl 121)))] [] h14 (q_X9_keepState h) := by
          intro n12
          induction n12 with
          | zero => intro h14 x16 m18 m19 m20 m21 hz; exact absurd hz (Nat.not_lt_zero _)
          | succ n12 ih17 =>
            intro h14 x16 hI fr fl15 m21 hz
            have fl4 : FR [121] h h14 := fl4.trans fl15 (by decide)
            refine R_iload_n (k := 2) rfl rfl rfl ?_
            refine R_bipush 23 rfl rfl ?_
            refine N_icmp_ge (a := x16.toInt) (b := 23) 58 rfl rfl rfl (by decide) (fun c22 => ?_) (fun c22 => ?_)
            · exact R_vret rfl rfl ⟨hI, fr, rfl⟩
            · refine R_aload_n (k := 1) rfl rfl rfl ?_
              refine R_bipush 6 rfl rfl ?_
              refine R_iload_n (k := 2) rfl rfl rfl ?_
              refine N_iadd (a := 6) (b := x16.toInt) rfl (by decide) rfl (by omega) (fun x23 q24 => ?_)
              refine R_aload_n (k := 0) rfl rfl rfl ?_
              refine R_getf_r (j := 24) rfl ft_9_52 sh_96 rfl ?_
              refine R_iload_n (k := 2) rfl rfl rfl ?_
              refine R_iald rfl sh_109 ⟨by omega, by omega⟩ ?_
              refine N_any (fun x25 => ?_)
              refine K_iast (a := x23.toInt) (lo := (-2147483648)) (hi' := 2147483647) rfl sh_121 rfl ⟨by omega, by omega⟩ hI (by decide) rfl (i_rng _) fr (by decide) (fun h26 g27 hI fr => ?_)
              have fl15 : FR [121] h3 h26 := by rw [g27]; exact FR_wI _ _ fl15 (by decide)
              have fl4 : FR [121] h h26 := by rw [g27]; exact FR_wI _ _ fl4 (by decide)
              refine N_iinc (a := x16.toInt) (c := 1) (fun w => [(2, .inl w), (0, .inr (.inr (.inl 96))), (1, .inr (.inr (.inl 121)))]) rfl rfl (fun _ => rfl) (by decide) rfl (by decide) (by omega) (fun x28 q29 => ?_)
              refine R_goto 34 rfl rfl ?_
              exact RUN_weak (psub_cons rfl (psub_cons rfl (psub_cons rfl (psub_nil _)))) (ih17 h26 x28 hI fr fl15 (by omega) (by omega))
        exact lp13 _ h3 (0 : Int32) hI fr (FR.rf _ _) (by decide) (Nat.lt_succ_self _)
      · refine R_aload_n (k := 1) rfl rfl rfl ?_
        refine R_iload_n (k := 2) rfl rfl rfl ?_
        refine R_aload_n (k := 0) rfl rfl rfl ?_
        refine R_getf_r (j := 22) rfl ft_9_46 sh_96 rfl ?_
        refine R_iload_n (k := 2) rfl rfl rfl ?_
        refine R_iald rfl sh_107 ⟨by omega, by omega⟩ ?_
        refine N_any (fun x30 => ?_)
        refine R_aload_n (k := 0) rfl rfl rfl ?_
        refine R_getf_r (j := 15) rfl ft_9_34 sh_96 rfl ?_
        refine R_iload_n (k := 2) rfl rfl rfl ?_
        refine R_iald rfl sh_103 ⟨by omega, by omega⟩ ?_
        refine N_bd (lo := 0) (hi := 7) (hI.1 103 _) (fun x31 q32 => ?_)
        refine N_min (a := x30.toInt) (b := x31.toInt) rfl mt_9_i167 rfl rfl ⟨by decide, by decide, Nat.le_of_ble_eq_true rfl⟩ (fun x33 q34 => ?_)
        refine K_iast (a := x5.toInt) (lo := (-2147483648)) (hi' := 2147483647) rfl sh_121 rfl ⟨by omega, by omega⟩ hI (by decide) rfl (i_rng _) fr (by decide) (fun h35 g36 hI fr => ?_)
        have fl4 : FR [121] h h35 := by rw [g36]; exact FR_wI _ _ fl4 (by decide)
        refine N_iinc (a := x5.toInt) (c := 1) (fun w => [(2, .inl w), (0, .inr (.inr (.inl 96))), (1, .inr (.inr (.inl 121)))]) rfl rfl (fun _ => rfl) (by decide) rfl (by decide) (by omega) (fun x37 q38 => ?_)
        refine R_goto 2 rfl rfl ?_
        exact RUN_weak (psub_cons rfl (psub_cons rfl (psub_cons rfl (psub_nil _)))) (ih6 h35 x37 hI fr fl4 (by omega) (by omega))
  exact lp2 _ h (0 : Int32) hI fr (FR.rf _ _) (by decide) (Nat.lt_succ_self _)
abbrev q_X9_keepState_1 (h : PH)  : Option PV → PH → Prop := fun r h' => INV h' ∧ FR [122] h h' ∧ r = none
set_option maxHeartbeats 4000000 in
set_option maxRecDepth 100000 in
theorem k_X9_keepState_1 (h : PH) (hI : INV h)  : CALL d_X9_keepState [.inr (.inr (.inl 96)), .inr (.inr (.inl 122))] h (q_X9_keepState_1 h) := by
  show RUN d_X9_keepState 0 [(0, .inr (.inr (.inl 96))), (1, .inr (.inr (.inl 122)))] [] h _
  have fr : FR [122] h h := FR.rf _ _
  refine R_iconst 0 rfl rfl ?_
  refine R_istore_n (k := 2) rfl [(2, .inl 0), (0, .inr (.inr (.inl 96))), (1, .inr (.inr (.inl 122)))] rfl rfl (by decide) ?_
  have lp2 : ∀ (n1 : Nat) (h3 : PH) (x5 : Int32), INV h3 → FR [122] h h3 → FR [122] h h3 → 0 ≤ x5.toInt ∧ x5.toInt ≤ 2147483647 → (2147483647 - x5.toInt).toNat < n1 → RUN d_X9_keepState 2 [(2, .inl x5), (0, .inr (.inr (.inl 96))), (1, .inr (.inr (.inl 122)))] [] h3 (q_X9_keepState_1 h) := by
    intro n1
    induction n1 with
    | zero => intro h3 x5 m7 m8 m9 m10 hz; exact absurd hz (Nat.not_lt_zero _)
    | succ n1 ih6 =>
      intro h3 x5 hI fr fl4 m10 hz
      refine R_iload_n (k := 2) rfl rfl rfl ?_
      refine R_bipush 6 rfl rfl ?_
      refine N_icmp_ge (a := x5.toInt) (b := 6) 32 rfl rfl rfl (by decide) (fun c11 => ?_) (fun c11 => ?_)
      · refine R_iconst 0 rfl rfl ?_
        refine R_istore_n (k := 2) rfl [(2, .inl 0), (0, .inr (.inr (.inl 96))), (1, .inr (.inr (.inl 122)))] rfl rfl (by decide) ?_
        have lp13 : ∀ (n12 : Nat) (h14 : PH) (x16 : Int32), INV h14 → FR [122] h h14 → FR [122] h3 h14 → 0 ≤ x16.toInt ∧ x16.toInt ≤ 2147483647 → (2147483647 - x16.toInt).toNat < n12 → RUN d_X9_keepState 34 [(2, .inl x16), (0, .inr (.inr (.inl 96))), (1, .inr (.inr (.inl 122)))] [] h14 (q_X9_keepState_1 h) := by
          intro n12
          induction n12 with
          | zero => intro h14 x16 m18 m19 m20 m21 hz; exact absurd hz (Nat.not_lt_zero _)
          | succ n12 ih17 =>
            intro h14 x16 hI fr fl15 m21 hz
            have fl4 : FR [122] h h14 := fl4.trans fl15 (by decide)
            refine R_iload_n (k := 2) rfl rfl rfl ?_
            refine R_bipush 23 rfl rfl ?_
            refine N_icmp_ge (a := x16.toInt) (b := 23) 58 rfl rfl rfl (by decide) (fun c22 => ?_) (fun c22 => ?_)
            · exact R_vret rfl rfl ⟨hI, fr, rfl⟩
            · refine R_aload_n (k := 1) rfl rfl rfl ?_
              refine R_bipush 6 rfl rfl ?_
              refine R_iload_n (k := 2) rfl rfl rfl ?_
              refine N_iadd (a := 6) (b := x16.toInt) rfl (by decide) rfl (by omega) (fun x23 q24 => ?_)
              refine R_aload_n (k := 0) rfl rfl rfl ?_
              refine R_getf_r (j := 24) rfl ft_9_52 sh_96 rfl ?_
              refine R_iload_n (k := 2) rfl rfl rfl ?_
              refine R_iald rfl sh_109 ⟨by omega, by omega⟩ ?_
              refine N_any (fun x25 => ?_)
              refine K_iast (a := x23.toInt) (lo := (-2147483648)) (hi' := 2147483647) rfl sh_122 rfl ⟨by omega, by omega⟩ hI (by decide) rfl (i_rng _) fr (by decide) (fun h26 g27 hI fr => ?_)
              have fl15 : FR [122] h3 h26 := by rw [g27]; exact FR_wI _ _ fl15 (by decide)
              have fl4 : FR [122] h h26 := by rw [g27]; exact FR_wI _ _ fl4 (by decide)
              refine N_iinc (a := x16.toInt) (c := 1) (fun w => [(2, .inl w), (0, .inr (.inr (.inl 96))), (1, .inr (.inr (.inl 122)))]) rfl rfl (fun _ => rfl) (by decide) rfl (by decide) (by omega) (fun x28 q29 => ?_)
              refine R_goto 34 rfl rfl ?_
              exact RUN_weak (psub_cons rfl (psub_cons rfl (psub_cons rfl (psub_nil _)))) (ih17 h26 x28 hI fr fl15 (by omega) (by omega))
        exact lp13 _ h3 (0 : Int32) hI fr (FR.rf _ _) (by decide) (Nat.lt_succ_self _)
      · refine R_aload_n (k := 1) rfl rfl rfl ?_
        refine R_iload_n (k := 2) rfl rfl rfl ?_
        refine R_aload_n (k := 0) rfl rfl rfl ?_
        refine R_getf_r (j := 22) rfl ft_9_46 sh_96 rfl ?_
        refine R_iload_n (k := 2) rfl rfl rfl ?_
        refine R_iald rfl sh_107 ⟨by omega, by omega⟩ ?_
        refine N_any (fun x30 => ?_)
        refine R_aload_n (k := 0) rfl rfl rfl ?_
        refine R_getf_r (j := 15) rfl ft_9_34 sh_96 rfl ?_
        refine R_iload_n (k := 2) rfl rfl rfl ?_
        refine R_iald rfl sh_103 ⟨by omega, by omega⟩ ?_
        refine N_bd (lo := 0) (hi := 7) (hI.1 103 _) (fun x31 q32 => ?_)
        refine N_min (a := x30.toInt) (b := x31.toInt) rfl mt_9_i167 rfl rfl ⟨by decide, by decide, Nat.le_of_ble_eq_true rfl⟩ (fun x33 q34 => ?_)
        refine K_iast (a := x5.toInt) (lo := (-2147483648)) (hi' := 2147483647) rfl sh_122 rfl ⟨by omega, by omega⟩ hI (by decide) rfl (i_rng _) fr (by decide) (fun h35 g36 hI fr => ?_)
        have fl4 : FR [122] h h35 := by rw [g36]; exact FR_wI _ _ fl4 (by decide)
        refine N_iinc (a := x5.toInt) (c := 1) (fun w => [(2, .inl w), (0, .inr (.inr (.inl 96))), (1, .inr (.inr (.inl 122)))]) rfl rfl (fun _ => rfl) (by decide) rfl (by decide) (by omega) (fun x37 q38 => ?_)
        refine R_goto 2 rfl rfl ?_
        exact RUN_weak (psub_cons rfl (psub_cons rfl (psub_cons rfl (psub_nil _)))) (ih6 h35 x37 hI fr fl4 (by omega) (by omega))
  exact lp2 _ h (0 : Int32) hI fr (FR.rf _ _) (by decide) (Nat.lt_succ_self _)
abbrev q_X9_isAlike (h : PH)  : Option PV → PH → Prop := fun r h' => h = h' ∧ ∃ z : Int32, r = some (.inl z) ∧ ((z.toInt = 1) ∨ (z.toInt = 0))
set_option maxHeartbeats 4000000 in
set_option maxRecDepth 100000 in
theorem k_X9_isAlike (h : PH) (hI : INV h)  : CALL d_X9_isAlike [.inr (.inr (.inl 121)), .inr (.inr (.inl 122))] h (q_X9_isAlike h) := by
  show RUN d_X9_isAlike 0 [(0, .inr (.inr (.inl 121))), (1, .inr (.inr (.inl 122)))] [] h _
  refine R_iconst 0 rfl rfl ?_
  refine R_istore_n (k := 2) rfl [(2, .inl 0), (0, .inr (.inr (.inl 121))), (1, .inr (.inr (.inl 122)))] rfl rfl (by decide) ?_
  have lp2 : ∀ (n1 : Nat) (x3 : Int32), 0 ≤ x3.toInt ∧ x3.toInt ≤ 2147483647 → (2147483647 - x3.toInt).toNat < n1 → RUN d_X9_isAlike 2 [(2, .inl x3), (0, .inr (.inr (.inl 121))), (1, .inr (.inr (.inl 122)))] [] h (q_X9_isAlike h) := by
    intro n1
    induction n1 with
    | zero => intro x3 m5 hz; exact absurd hz (Nat.not_lt_zero _)
    | succ n1 ih4 =>
      intro x3 m5 hz
      refine R_iload_n (k := 2) rfl rfl rfl ?_
      refine R_bipush 29 rfl rfl ?_
      refine N_icmp_ge (a := x3.toInt) (b := 29) 25 rfl rfl rfl (by decide) (fun c6 => ?_) (fun c6 => ?_)
      · refine R_iconst 1 rfl rfl ?_
        exact R_iret rfl rfl rfl ⟨rfl, _, rfl, by rw [show (1 : Int32).toInt = 1 from rfl]; omega⟩
      · refine R_aload_n (k := 0) rfl rfl rfl ?_
        refine R_iload_n (k := 2) rfl rfl rfl ?_
        refine R_iald rfl sh_121 ⟨by omega, by omega⟩ ?_
        refine N_any (fun x7 => ?_)
        refine R_aload_n (k := 1) rfl rfl rfl ?_
        refine R_iload_n (k := 2) rfl rfl rfl ?_
        refine R_iald rfl sh_122 ⟨by omega, by omega⟩ ?_
        refine N_any (fun x8 => ?_)
        refine N_icmp_eq (a := x7.toInt) (b := x8.toInt) 19 rfl rfl rfl rfl (fun c9 => ?_) (fun c9 => ?_)
        · refine N_iinc (a := x3.toInt) (c := 1) (fun w => [(2, .inl w), (0, .inr (.inr (.inl 121))), (1, .inr (.inr (.inl 122)))]) rfl rfl (fun _ => rfl) (by decide) rfl (by decide) (by omega) (fun x10 q11 => ?_)
          refine R_goto 2 rfl rfl ?_
          exact RUN_weak (psub_cons rfl (psub_cons rfl (psub_cons rfl (psub_nil _)))) (ih4 x10 (by omega) (by omega))
        · refine R_iconst 0 rfl rfl ?_
          exact R_iret rfl rfl rfl ⟨rfl, _, rfl, by rw [show (0 : Int32).toInt = 0 from rfl]; omega⟩
  exact lp2 _ (0 : Int32) (by decide) (Nat.lt_succ_self _)
abbrev q_X9_setState (h : PH)  : Option PV → PH → Prop := fun r h' => INV h' ∧ FR [107, 108, 109] h h' ∧ r = none
set_option maxHeartbeats 4000000 in
set_option maxRecDepth 100000 in
theorem k_X9_setState (h : PH) (hI : INV h)  : CALL d_X9_setState [.inr (.inr (.inl 96)), .inr (.inr (.inl 121))] h (q_X9_setState h) := by
  show RUN d_X9_setState 0 [(0, .inr (.inr (.inl 96))), (1, .inr (.inr (.inl 121)))] [] h _
  have fr : FR [107, 108, 109] h h := FR.rf _ _
  refine R_iconst 0 rfl rfl ?_
  refine R_istore_n (k := 2) rfl [(2, .inl 0), (0, .inr (.inr (.inl 96))), (1, .inr (.inr (.inl 121)))] rfl rfl (by decide) ?_
  have lp2 : ∀ (n1 : Nat) (h3 : PH) (x5 : Int32), INV h3 → FR [107, 108, 109] h h3 → FR [107, 108, 109] h h3 → 0 ≤ x5.toInt ∧ x5.toInt ≤ 2147483647 → (2147483647 - x5.toInt).toNat < n1 → RUN d_X9_setState 2 [(2, .inl x5), (0, .inr (.inr (.inl 96))), (1, .inr (.inr (.inl 121)))] [] h3 (q_X9_setState h) := by
    intro n1
    induction n1 with
    | zero => intro h3 x5 m7 m8 m9 m10 hz; exact absurd hz (Nat.not_lt_zero _)
    | succ n1 ih6 =>
      intro h3 x5 hI fr fl4 m10 hz
      refine R_iload_n (k := 2) rfl rfl rfl ?_
      refine R_bipush 6 rfl rfl ?_
      refine N_icmp_ge (a := x5.toInt) (b := 6) 30 rfl rfl rfl (by decide) (fun c11 => ?_) (fun c11 => ?_)
      · refine R_iconst 0 rfl rfl ?_
        refine R_istore_n (k := 2) rfl [(2, .inl 0), (0, .inr (.inr (.inl 96))), (1, .inr (.inr (.inl 121)))] rfl rfl (by decide) ?_
        have lp13 : ∀ (n12 : Nat) (h14 : PH) (x16 : Int32), INV h14 → FR [107, 108, 109] h h14 → FR [109] h3 h14 → 0 ≤ x16.toInt ∧ x16.toInt ≤ 2147483647 → (2147483647 - x16.toInt).toNat < n12 → RUN d_X9_setState 32 [(2, .inl x16), (0, .inr (.inr (.inl 96))), (1, .inr (.inr (.inl 121)))] [] h14 (q_X9_setState h) := by
          intro n12
          induction n12 with
          | zero => intro h14 x16 m18 m19 m20 m21 hz; exact absurd hz (Nat.not_lt_zero _)
          | succ n12 ih17 =>
            intro h14 x16 hI fr fl15 m21 hz
            have fl4 : FR [107, 108, 109] h h14 := fl4.trans fl15 (by decide)
            refine R_iload_n (k := 2) rfl rfl rfl ?_
            refine R_bipush 23 rfl rfl ?_
            refine N_icmp_ge (a := x16.toInt) (b := 23) 56 rfl rfl rfl (by decide) (fun c22 => ?_) (fun c22 => ?_)
            · exact R_vret rfl rfl ⟨hI, fr, rfl⟩
            · refine R_aload_n (k := 0) rfl rfl rfl ?_
              refine R_getf_r (j := 24) rfl ft_9_52 sh_96 rfl ?_
              refine R_iload_n (k := 2) rfl rfl rfl ?_
              refine R_aload_n (k := 1) rfl rfl rfl ?_
              refine R_bipush 6 rfl rfl ?_
              refine R_iload_n (k := 2) rfl rfl rfl ?_
              refine N_iadd (a := 6) (b := x16.toInt) rfl (by decide) rfl (by omega) (fun x23 q24 => ?_)
              refine R_iald rfl sh_121 ⟨by omega, by omega⟩ ?_
              refine N_any (fun x25 => ?_)
              refine K_iast (a := x16.toInt) (lo := (-2147483648)) (hi' := 2147483647) rfl sh_109 rfl ⟨by omega, by omega⟩ hI (by decide) rfl (i_rng _) fr (by decide) (fun h26 g27 hI fr => ?_)
              have fl15 : FR [109] h3 h26 := by rw [g27]; exact FR_wI _ _ fl15 (by decide)
              have fl4 : FR [107, 108, 109] h h26 := by rw [g27]; exact FR_wI _ _ fl4 (by decide)
              refine N_iinc (a := x16.toInt) (c := 1) (fun w => [(2, .inl w), (0, .inr (.inr (.inl 96))), (1, .inr (.inr (.inl 121)))]) rfl rfl (fun _ => rfl) (by decide) rfl (by decide) (by omega) (fun x28 q29 => ?_)
              refine R_goto 32 rfl rfl ?_
              exact RUN_weak (psub_cons rfl (psub_cons rfl (psub_cons rfl (psub_nil _)))) (ih17 h26 x28 hI fr fl15 (by omega) (by omega))
        exact lp13 _ h3 (0 : Int32) hI fr (FR.rf _ _) (by decide) (Nat.lt_succ_self _)
      · refine R_aload_n (k := 0) rfl rfl rfl ?_
        refine R_getf_r (j := 22) rfl ft_9_46 sh_96 rfl ?_
        refine R_iload_n (k := 2) rfl rfl rfl ?_
        refine R_aload_n (k := 1) rfl rfl rfl ?_
        refine R_iload_n (k := 2) rfl rfl rfl ?_
        refine R_iald rfl sh_121 ⟨by omega, by omega⟩ ?_
        refine N_any (fun x30 => ?_)
        refine K_iast (a := x5.toInt) (lo := (-2147483648)) (hi' := 2147483647) rfl sh_107 rfl ⟨by omega, by omega⟩ hI (by decide) rfl (i_rng _) fr (by decide) (fun h31 g32 hI fr => ?_)
        have fl4 : FR [107, 108, 109] h h31 := by rw [g32]; exact FR_wI _ _ fl4 (by decide)
        refine R_aload_n (k := 0) rfl rfl rfl ?_
        refine R_getf_r (j := 23) rfl ft_9_49 sh_96 rfl ?_
        refine R_iload_n (k := 2) rfl rfl rfl ?_
        refine R_iconst 0 rfl rfl ?_
        refine K_iast (a := x5.toInt) (lo := (-2147483648)) (hi' := 2147483647) rfl sh_108 rfl ⟨by omega, by omega⟩ hI (by decide) rfl (by decide) fr (by decide) (fun h33 g34 hI fr => ?_)
        have fl4 : FR [107, 108, 109] h h33 := by rw [g34]; exact FR_wI _ _ fl4 (by decide)
        refine N_iinc (a := x5.toInt) (c := 1) (fun w => [(2, .inl w), (0, .inr (.inr (.inl 96))), (1, .inr (.inr (.inl 121)))]) rfl rfl (fun _ => rfl) (by decide) rfl (by decide) (by omega) (fun x35 q36 => ?_)
        refine R_goto 2 rfl rfl ?_
        exact RUN_weak (psub_cons rfl (psub_cons rfl (psub_cons rfl (psub_nil _)))) (ih6 h33 x35 hI fr fl4 (by omega) (by omega))
  exact lp2 _ h (0 : Int32) hI fr (FR.rf _ _) (by decide) (Nat.lt_succ_self _)
abbrev q_X9_setState_1 (h : PH)  : Option PV → PH → Prop := fun r h' => INV h' ∧ FR [107, 108, 109] h h' ∧ r = none
set_option maxHeartbeats 4000000 in
set_option maxRecDepth 100000 in
theorem k_X9_setState_1 (h : PH) (hI : INV h)  : CALL d_X9_setState [.inr (.inr (.inl 96)), .inr (.inr (.inl 122))] h (q_X9_setState_1 h) := by
  show RUN d_X9_setState 0 [(0, .inr (.inr (.inl 96))), (1, .inr (.inr (.inl 122)))] [] h _
  have fr : FR [107, 108, 109] h h := FR.rf _ _
  refine R_iconst 0 rfl rfl ?_
  refine R_istore_n (k := 2) rfl [(2, .inl 0), (0, .inr (.inr (.inl 96))), (1, .inr (.inr (.inl 122)))] rfl rfl (by decide) ?_
  have lp2 : ∀ (n1 : Nat) (h3 : PH) (x5 : Int32), INV h3 → FR [107, 108, 109] h h3 → FR [107, 108, 109] h h3 → 0 ≤ x5.toInt ∧ x5.toInt ≤ 2147483647 → (2147483647 - x5.toInt).toNat < n1 → RUN d_X9_setState 2 [(2, .inl x5), (0, .inr (.inr (.inl 96))), (1, .inr (.inr (.inl 122)))] [] h3 (q_X9_setState_1 h) := by
    intro n1
    induction n1 with
    | zero => intro h3 x5 m7 m8 m9 m10 hz; exact absurd hz (Nat.not_lt_zero _)
    | succ n1 ih6 =>
      intro h3 x5 hI fr fl4 m10 hz
      refine R_iload_n (k := 2) rfl rfl rfl ?_
      refine R_bipush 6 rfl rfl ?_
      refine N_icmp_ge (a := x5.toInt) (b := 6) 30 rfl rfl rfl (by decide) (fun c11 => ?_) (fun c11 => ?_)
      · refine R_iconst 0 rfl rfl ?_
        refine R_istore_n (k := 2) rfl [(2, .inl 0), (0, .inr (.inr (.inl 96))), (1, .inr (.inr (.inl 122)))] rfl rfl (by decide) ?_
        have lp13 : ∀ (n12 : Nat) (h14 : PH) (x16 : Int32), INV h14 → FR [107, 108, 109] h h14 → FR [109] h3 h14 → 0 ≤ x16.toInt ∧ x16.toInt ≤ 2147483647 → (2147483647 - x16.toInt).toNat < n12 → RUN d_X9_setState 32 [(2, .inl x16), (0, .inr (.inr (.inl 96))), (1, .inr (.inr (.inl 122)))] [] h14 (q_X9_setState_1 h) := by
          intro n12
          induction n12 with
          | zero => intro h14 x16 m18 m19 m20 m21 hz; exact absurd hz (Nat.not_lt_zero _)
          | succ n12 ih17 =>
            intro h14 x16 hI fr fl15 m21 hz
            have fl4 : FR [107, 108, 109] h h14 := fl4.trans fl15 (by decide)
            refine R_iload_n (k := 2) rfl rfl rfl ?_
            refine R_bipush 23 rfl rfl ?_
            refine N_icmp_ge (a := x16.toInt) (b := 23) 56 rfl rfl rfl (by decide) (fun c22 => ?_) (fun c22 => ?_)
            · exact R_vret rfl rfl ⟨hI, fr, rfl⟩
            · refine R_aload_n (k := 0) rfl rfl rfl ?_
              refine R_getf_r (j := 24) rfl ft_9_52 sh_96 rfl ?_
              refine R_iload_n (k := 2) rfl rfl rfl ?_
              refine R_aload_n (k := 1) rfl rfl rfl ?_
              refine R_bipush 6 rfl rfl ?_
              refine R_iload_n (k := 2) rfl rfl rfl ?_
              refine N_iadd (a := 6) (b := x16.toInt) rfl (by decide) rfl (by omega) (fun x23 q24 => ?_)
              refine R_iald rfl sh_122 ⟨by omega, by omega⟩ ?_
              refine N_any (fun x25 => ?_)
              refine K_iast (a := x16.toInt) (lo := (-2147483648)) (hi' := 2147483647) rfl sh_109 rfl ⟨by omega, by omega⟩ hI (by decide) rfl (i_rng _) fr (by decide) (fun h26 g27 hI fr => ?_)
              have fl15 : FR [109] h3 h26 := by rw [g27]; exact FR_wI _ _ fl15 (by decide)
              have fl4 : FR [107, 108, 109] h h26 := by rw [g27]; exact FR_wI _ _ fl4 (by decide)
              refine N_iinc (a := x16.toInt) (c := 1) (fun w => [(2, .inl w), (0, .inr (.inr (.inl 96))), (1, .inr (.inr (.inl 122)))]) rfl rfl (fun _ => rfl) (by decide) rfl (by decide) (by omega) (fun x28 q29 => ?_)
              refine R_goto 32 rfl rfl ?_
              exact RUN_weak (psub_cons rfl (psub_cons rfl (psub_cons rfl (psub_nil _)))) (ih17 h26 x28 hI fr fl15 (by omega) (by omega))
        exact lp13 _ h3 (0 : Int32) hI fr (FR.rf _ _) (by decide) (Nat.lt_succ_self _)
      · refine R_aload_n (k := 0) rfl rfl rfl ?_
        refine R_getf_r (j := 22) rfl ft_9_46 sh_96 rfl ?_
        refine R_iload_n (k := 2) rfl rfl rfl ?_
        refine R_aload_n (k := 1) rfl rfl rfl ?_
        refine R_iload_n (k := 2) rfl rfl rfl ?_
        refine R_iald rfl sh_122 ⟨by omega, by omega⟩ ?_
        refine N_any (fun x30 => ?_)
        refine K_iast (a := x5.toInt) (lo := (-2147483648)) (hi' := 2147483647) rfl sh_107 rfl ⟨by omega, by omega⟩ hI (by decide) rfl (i_rng _) fr (by decide) (fun h31 g32 hI fr => ?_)
        have fl4 : FR [107, 108, 109] h h31 := by rw [g32]; exact FR_wI _ _ fl4 (by decide)
        refine R_aload_n (k := 0) rfl rfl rfl ?_
        refine R_getf_r (j := 23) rfl ft_9_49 sh_96 rfl ?_
        refine R_iload_n (k := 2) rfl rfl rfl ?_
        refine R_iconst 0 rfl rfl ?_
        refine K_iast (a := x5.toInt) (lo := (-2147483648)) (hi' := 2147483647) rfl sh_108 rfl ⟨by omega, by omega⟩ hI (by decide) rfl (by decide) fr (by decide) (fun h33 g34 hI fr => ?_)
        have fl4 : FR [107, 108, 109] h h33 := by rw [g34]; exact FR_wI _ _ fl4 (by decide)
        refine N_iinc (a := x5.toInt) (c := 1) (fun w => [(2, .inl w), (0, .inr (.inr (.inl 96))), (1, .inr (.inr (.inl 122)))]) rfl rfl (fun _ => rfl) (by decide) rfl (by decide) (by omega) (fun x35 q36 => ?_)
        refine R_goto 2 rfl rfl ?_
        exact RUN_weak (psub_cons rfl (psub_cons rfl (psub_cons rfl (psub_nil _)))) (ih6 h33 x35 hI fr fl4 (by omega) (by omega))
  exact lp2 _ h (0 : Int32) hI fr (FR.rf _ _) (by decide) (Nat.lt_succ_self _)
abbrev q_X0_length (h : PH)  : Option PV → PH → Prop := fun r h' => h = h' ∧ ∃ z : Int32, r = some (.inl z) ∧ (((-255) ≤ z.toInt ∧ z.toInt ≤ 255))
set_option maxHeartbeats 4000000 in
set_option maxRecDepth 100000 in
theorem k_X0_length (h : PH) (hI : INV h)  : CALL d_X0_length [.inr (.inr (.inl 94))] h (q_X0_length h) := by
  show RUN d_X0_length 0 [(0, .inr (.inr (.inl 94)))] [] h _
  refine R_aload_n (k := 0) rfl rfl rfl ?_
  refine R_getf_i (j := 2) rfl ft_0_19 sh_94 rfl ?_
  have b1 : (0 : Int) ≤ (h.1 94 2).toInt ∧ (h.1 94 2).toInt ≤ 255 := hI.1 94 2
  refine R_aload_n (k := 0) rfl rfl rfl ?_
  refine R_getf_i (j := 1) rfl ft_0_15 sh_94 rfl ?_
  have b2 : (0 : Int) ≤ (h.1 94 1).toInt ∧ (h.1 94 1).toInt ≤ 255 := hI.1 94 1
  refine N_isub (a := (h.1 94 2).toInt) (b := (h.1 94 1).toInt) rfl rfl rfl (by omega) (fun x3 q4 => ?_)
  exact R_iret rfl rfl rfl ⟨rfl, _, rfl, by omega⟩
abbrev q_X8_round (h : PH)  : Option PV → PH → Prop := fun r h' => INV h' ∧ FR [70, 71, 72, 73, 74, 94, 95] h h' ∧ ∃ z : Int32, r = some (.inl z) ∧ (((-255) ≤ z.toInt ∧ z.toInt ≤ 255))
set_option maxHeartbeats 4000000 in
set_option maxRecDepth 100000 in
theorem k_X8_round (h : PH) (hI : INV h)  : CALL d_X8_round [.inr (.inr (.inl 0))] h (q_X8_round h) := by
  show RUN d_X8_round 0 [(0, .inr (.inr (.inl 0)))] [] h _
  have fr : FR [70, 71, 72, 73, 74, 94, 95] h h := FR.rf _ _
  refine R_aload_n (k := 0) rfl rfl rfl ?_
  refine R_callV (v := .inr (.inr (.inl 0))) (As := []) (rest := []) rfl mt_8_i271 pp_X8_roundRefusal (by decide) rfl rfl rfl (Nat.le_of_ble_eq_true rfl) (Nat.le_of_ble_eq_true rfl) ((k_X8_roundRefusal h hI).mono (fun r1 h2 p3 => ?_))
  obtain ⟨hJ, fj, x4, rfl, q5⟩ := p3
  have f6 := fj
  have fr := fr.trans fj (by decide)
  have hI := hJ
  show RUN d_X8_round 4 [(0, .inr (.inr (.inl 0)))] [.inl x4] h2 _
  refine R_istore_n (k := 1) rfl [(1, .inl x4), (0, .inr (.inr (.inl 0)))] rfl rfl (by decide) ?_
  refine R_iload_n (k := 1) rfl rfl rfl ?_
  refine N_if_eq (a := x4.toInt) 13 rfl rfl rfl (fun c7 => ?_) (fun c7 => ?_)
  · refine R_aload_n (k := 0) rfl rfl rfl ?_
    refine R_getf_r (j := 10) rfl ft_8_70 sh_0 rfl ?_
    refine R_callV (v := .inr (.inr (.inl 94))) (As := []) (rest := []) rfl mt_8_i277 pp_X0_length (by decide) rfl rfl rfl (Nat.le_of_ble_eq_true rfl) (Nat.le_of_ble_eq_true rfl) ((k_X0_length h2 hI).mono (fun r8 h9 p10 => ?_))
    obtain ⟨rfl, x11, rfl, q12⟩ := p10
    show RUN d_X8_round 20 [(1, .inl x4), (0, .inr (.inr (.inl 0)))] [.inl x11] h2 _
    exact R_iret rfl rfl rfl ⟨hI, fr, _, rfl, by omega⟩
  · refine R_iload_n (k := 1) rfl rfl rfl ?_
    refine R_goto 20 rfl rfl ?_
    exact R_iret rfl rfl rfl ⟨hI, fr, _, rfl, by omega⟩
abbrev q_X0_throwsInIt (h : PH)  : Option PV → PH → Prop := fun r h' => h = h' ∧ ∃ z : Int32, r = some (.inl z) ∧ ((True))
set_option maxHeartbeats 4000000 in
set_option maxRecDepth 100000 in
theorem k_X0_throwsInIt (h : PH) (hI : INV h)  : CALL d_X0_throwsInIt [.inr (.inr (.inl 94))] h (q_X0_throwsInIt h) := by
  show RUN d_X0_throwsInIt 0 [(0, .inr (.inr (.inl 94)))] [] h _
  refine R_iconst 0 rfl rfl ?_
  refine R_istore_n (k := 1) rfl [(1, .inl 0), (0, .inr (.inr (.inl 94)))] rfl rfl (by decide) ?_
  refine R_aload_n (k := 0) rfl rfl rfl ?_
  refine R_getf_i (j := 1) rfl ft_0_15 sh_94 rfl ?_
  have b1 : (0 : Int) ≤ (h.1 94 1).toInt ∧ (h.1 94 1).toInt ≤ 255 := hI.1 94 1
  refine R_iconst 1 rfl rfl ?_
  refine N_iadd (a := (h.1 94 1).toInt) (b := 1) rfl rfl (by decide) (by omega) (fun x2 q3 => ?_)
  refine R_istore_n (k := 2) rfl [(2, .inl x2), (1, .inl 0), (0, .inr (.inr (.inl 94)))] rfl rfl (by decide) ?_
  have lp5 : ∀ (n4 : Nat) (x6 : Int32) (x7 : Int32), 1 ≤ x7.toInt ∧ x7.toInt ≤ 256 → (256 - x7.toInt).toNat < n4 → RUN d_X0_throwsInIt 9 [(2, .inl x7), (1, .inl x6), (0, .inr (.inr (.inl 94)))] [] h (q_X0_throwsInIt h) := by
    intro n4
    induction n4 with
    | zero => intro x6 x7 m9 hz; exact absurd hz (Nat.not_lt_zero _)
    | succ n4 ih8 =>
      intro x6 x7 m9 hz
      refine R_iload_n (k := 2) rfl rfl rfl ?_
      refine R_aload_n (k := 0) rfl rfl rfl ?_
      refine R_getf_i (j := 2) rfl ft_0_19 sh_94 rfl ?_
      have b10 : (0 : Int) ≤ (h.1 94 2).toInt ∧ (h.1 94 2).toInt ≤ 255 := hI.1 94 2
      refine N_icmp_gt (a := x7.toInt) (b := (h.1 94 2).toInt) 39 rfl rfl rfl rfl (fun c11 => ?_) (fun c11 => ?_)
      · refine R_iload_n (k := 1) rfl rfl rfl ?_
        exact R_iret rfl rfl rfl ⟨rfl, _, rfl, trivial⟩
      · refine R_aload_n (k := 0) rfl rfl rfl ?_
        refine R_getf_r (j := 0) rfl ft_0_11 sh_94 rfl ?_
        refine R_iload_n (k := 2) rfl rfl rfl ?_
        refine R_lald rfl sh_95 ⟨by omega, by omega⟩ ?_
        refine N_anyL (fun w12 => ?_)
        refine R_iconst 0 rfl rfl ?_
        have k13 : (0 : Int32).toInt = 0 := by decide
        refine R_callS (As := [.inr (.inl w12), .inl 0]) (rest := []) rfl mt_0_i42 (by decide) pp_X8_hasBit (by decide) rfl rfl (Nat.le_of_ble_eq_true rfl) (Nat.le_of_ble_eq_true rfl) ((k_X8_hasBit h hI w12 (0 : Int32)).mono (fun r14 h15 p16 => ?_))
        obtain ⟨rfl, x17, rfl, q18 | q18⟩ := p16
        · show RUN d_X0_throwsInIt 27 [(2, .inl x7), (1, .inl x6), (0, .inr (.inr (.inl 94)))] [.inl x17] h _
          refine N_if_eq (a := x17.toInt) 33 rfl rfl rfl (fun c19 => ?_) (fun c19 => ?_)
          · refine N_iinc (a := x7.toInt) (c := 1) (fun w => [(2, .inl w), (1, .inl x6), (0, .inr (.inr (.inl 94)))]) rfl rfl (fun _ => rfl) (by decide) rfl (by decide) (by omega) (fun x20 q21 => ?_)
            refine R_goto 9 rfl rfl ?_
            exact RUN_weak (psub_cons rfl (psub_cons rfl (psub_cons rfl (psub_nil _)))) (ih8 x6 x20 (by omega) (by omega))
          · exfalso; omega
        · show RUN d_X0_throwsInIt 27 [(2, .inl x7), (1, .inl x6), (0, .inr (.inr (.inl 94)))] [.inl x17] h _
          refine N_if_eq (a := x17.toInt) 33 rfl rfl rfl (fun c22 => ?_) (fun c22 => ?_)
          · exfalso; omega
          · have b23 := i_rng x6
            refine N_iinc_any (fun w => [(1, .inl w), (2, .inl x7), (0, .inr (.inr (.inl 94)))]) rfl rfl (fun _ => rfl) (by decide) (fun x24 => ?_)
            refine N_iinc (a := x7.toInt) (c := 1) (fun w => [(2, .inl w), (1, .inl x24), (0, .inr (.inr (.inl 94)))]) rfl rfl (fun _ => rfl) (by decide) rfl (by decide) (by omega) (fun x25 q26 => ?_)
            refine R_goto 9 rfl rfl ?_
            exact RUN_weak (psub_cons rfl (psub_cons rfl (psub_cons rfl (psub_nil _)))) (ih8 x24 x25 (by omega) (by omega))
  exact lp5 _ (0 : Int32) x2 (by omega) (Nat.lt_succ_self _)
abbrev q_X8_slow (h : PH)  : Option PV → PH → Prop := fun r h' => INV h' ∧ FR [0, 70, 71, 72, 73, 74, 75, 76, 77, 78, 79, 80, 81, 82, 83, 84, 85, 86] h h' ∧ ∃ z : Int32, r = some (.inl z) ∧ (((-2) ≤ z.toInt ∧ z.toInt ≤ 2147483647))
set_option maxHeartbeats 4000000 in
set_option maxRecDepth 100000 in
theorem k_X8_slow (h : PH) (hI : INV h)  : CALL d_X8_slow [.inr (.inr (.inl 0))] h (q_X8_slow h) := by
  show RUN d_X8_slow 0 [(0, .inr (.inr (.inl 0)))] [] h _
  have fr : FR [0, 70, 71, 72, 73, 74, 75, 76, 77, 78, 79, 80, 81, 82, 83, 84, 85, 86] h h := FR.rf _ _
  refine R_aload_n (k := 0) rfl rfl rfl ?_
  refine R_getf_r (j := 3) rfl ft_8_28 sh_0 rfl ?_
  refine R_callV (v := .inr (.inr (.inl 16))) (As := []) (rest := []) rfl mt_8_i146 pp_X1_stands (by decide) rfl rfl rfl (Nat.le_of_ble_eq_true rfl) (Nat.le_of_ble_eq_true rfl) ((k_X1_stands h hI).mono (fun r1 h2 p3 => ?_))
  obtain ⟨rfl, x4, rfl, q5 | q5⟩ := p3
  · have b6 : (0 : Int) ≤ (h.1 17 0).toInt ∧ (h.1 17 0).toInt ≤ 60 := hI.1 17 0
    have e7 : 0 < (h.1 17 10).toInt → 1 ≤ (h.1 17 0).toInt := hI.2.1
    show RUN d_X8_slow 7 [(0, .inr (.inr (.inl 0)))] [.inl x4] h _
    refine N_if_ne (a := x4.toInt) 13 rfl rfl rfl (fun c8 => ?_) (fun c8 => ?_)
    · exfalso; omega
    · refine R_bipush (-2) rfl rfl ?_
      exact R_iret rfl rfl rfl ⟨hI, fr, _, rfl, by rw [show ((-2) : Int32).toInt = (-2) from rfl]; omega⟩
  · have b9 : (0 : Int) ≤ (h.1 17 0).toInt ∧ (h.1 17 0).toInt ≤ 60 := hI.1 17 0
    have e10 : 0 < (h.1 17 10).toInt → 1 ≤ (h.1 17 0).toInt := hI.2.1
    show RUN d_X8_slow 7 [(0, .inr (.inr (.inl 0)))] [.inl x4] h _
    refine N_if_ne (a := x4.toInt) 13 rfl rfl rfl (fun c11 => ?_) (fun c11 => ?_)
    · refine R_aload_n (k := 0) rfl rfl rfl ?_
      refine R_callV (v := .inr (.inr (.inl 0))) (As := []) (rest := []) rfl mt_8_i249 pp_X8_waterNow (by decide) rfl rfl rfl (Nat.le_of_ble_eq_true rfl) (Nat.le_of_ble_eq_true rfl) ((k_X8_waterNow h hI).mono (fun r12 h13 p14 => ?_))
      obtain ⟨hJ, fj, x15, rfl, q16⟩ := p14
      have f17 := fj
      have fr := fr.trans fj (by decide)
      have hI := hJ
      have s18 : (h13.1 17 0).toInt = (h.1 17 0).toInt := by rw [(f17 17 (by decide)).1]
      have s19 : (h13.1 17 10).toInt = (h.1 17 10).toInt := by rw [(f17 17 (by decide)).1]
      show RUN d_X8_slow 17 [(0, .inr (.inr (.inl 0)))] [.inl x15] h13 _
      refine R_istore_n (k := 1) rfl [(1, .inl x15), (0, .inr (.inr (.inl 0)))] rfl rfl (by decide) ?_
      refine R_iconst (-1) rfl rfl ?_
      refine R_istore_n (k := 2) rfl [(2, .inl (-1)), (1, .inl x15), (0, .inr (.inr (.inl 0)))] rfl rfl (by decide) ?_
      refine R_iconst 0 rfl rfl ?_
      refine R_istore_n (k := 3) rfl [(3, .inl 0), (2, .inl (-1)), (1, .inl x15), (0, .inr (.inr (.inl 0)))] rfl rfl (by decide) ?_
      have lp21 : ∀ (n20 : Nat) (h22 : PH) (x24 : Int32) (x25 : Int32) (x26 : Int32), INV h22 → FR [0, 70, 71, 72, 73, 74, 75, 76, 77, 78, 79, 80, 81, 82, 83, 84, 85, 86] h h22 → FR [70, 71, 72, 73, 74] h13 h22 → (-1) ≤ x25.toInt ∧ x25.toInt ≤ 2147483647 → 0 ≤ x26.toInt ∧ x26.toInt ≤ 2147483647 → (2147483647 - x26.toInt).toNat < n20 → RUN d_X8_slow 22 [(3, .inl x26), (2, .inl x25), (1, .inl x24), (0, .inr (.inr (.inl 0)))] [] h22 (q_X8_slow h) := by
        intro n20
        induction n20 with
        | zero => intro h22 x24 x25 x26 m28 m29 m30 m31 m32 hz; exact absurd hz (Nat.not_lt_zero _)
        | succ n20 ih27 =>
          intro h22 x24 x25 x26 hI fr fl23 m31 m32 hz
          have s33 : (h22.1 17 0).toInt = (h13.1 17 0).toInt := by rw [(fl23 17 (by decide)).1]
          have s34 : (h22.1 17 10).toInt = (h13.1 17 10).toInt := by rw [(fl23 17 (by decide)).1]
          refine R_iload_n (k := 3) rfl rfl rfl ?_
          refine R_aload_n (k := 0) rfl rfl rfl ?_
          refine R_getf_r (j := 3) rfl ft_8_28 sh_0 rfl ?_
          refine R_getf_r (j := 0) rfl ft_8_109 sh_16 rfl ?_
          refine R_iconst 5 rfl rfl ?_
          refine R_iald rfl sh_17 (by decide) ?_
          have b35 : (0 : Int) ≤ (h22.1 17 5).toInt ∧ (h22.1 17 5).toInt ≤ 6 := hI.1 17 5
          show RUN d_X8_slow 32 [(3, .inl x26), (2, .inl x25), (1, .inl x24), (0, .inr (.inr (.inl 0)))] [.inl (h22.1 17 5), .inl x26] h22 _
          refine N_icmp_ge (a := x26.toInt) (b := (h22.1 17 5).toInt) 60 rfl rfl rfl rfl (fun c36 => ?_) (fun c36 => ?_)
          · refine R_iload_n (k := 2) rfl rfl rfl ?_
            have b37 := i_rng x25
            exact R_iret rfl rfl rfl ⟨hI, fr, _, rfl, by omega⟩
          · refine R_aload_n (k := 0) rfl rfl rfl ?_
            refine R_iload_n (k := 3) rfl rfl rfl ?_
            refine R_iconst 1 rfl rfl ?_
            have k38 : (1 : Int32).toInt = 1 := by decide
            refine R_callV (v := .inr (.inr (.inl 0))) (As := [.inl x26, .inl 1]) (rest := []) rfl mt_8_i252 pp_X8_waterByPace (by decide) rfl rfl rfl (Nat.le_of_ble_eq_true rfl) (Nat.le_of_ble_eq_true rfl) ((k_X8_waterByPace h22 hI x26 (1 : Int32) (by omega) (by decide)).mono (fun r39 h40 p41 => ?_))
            obtain ⟨hJ, fj, x42, rfl, q43⟩ := p41
            have f44 := fj
            have fr := fr.trans fj (by decide)
            have hI := hJ
            have fl23 : FR [70, 71, 72, 73, 74] h13 h40 := fl23.trans fj (by decide)
            have s45 : (h40.1 17 0).toInt = (h22.1 17 0).toInt := by rw [(f44 17 (by decide)).1]
            have s46 : (h40.1 17 10).toInt = (h22.1 17 10).toInt := by rw [(f44 17 (by decide)).1]
            have s47 : (h40.1 17 5).toInt = (h22.1 17 5).toInt := by rw [(f44 17 (by decide)).1]
            show RUN d_X8_slow 41 [(3, .inl x26), (2, .inl x25), (1, .inl x24), (0, .inr (.inr (.inl 0)))] [.inl x42] h40 _
            refine R_istore (k := 4) [(4, .inl x42), (3, .inl x26), (2, .inl x25), (1, .inl x24), (0, .inr (.inr (.inl 0)))] rfl rfl (by decide) ?_
            refine R_iload (k := 4) rfl rfl ?_
            refine R_iload_n (k := 1) rfl rfl rfl ?_
            refine N_icmp_le (a := x42.toInt) (b := x24.toInt) 54 rfl rfl rfl rfl (fun c48 => ?_) (fun c48 => ?_)
            · refine N_iinc (a := x26.toInt) (c := 1) (fun w => [(3, .inl w), (4, .inl x42), (2, .inl x25), (1, .inl x24), (0, .inr (.inr (.inl 0)))]) rfl rfl (fun _ => rfl) (by decide) rfl (by decide) (by omega) (fun x49 q50 => ?_)
              refine R_goto 22 rfl rfl ?_
              have b51 := i_rng x25
              exact RUN_weak (psub_cons rfl (psub_cons rfl (psub_cons rfl (psub_cons rfl (psub_nil _))))) (ih27 h40 x24 x25 x49 hI fr fl23 (by omega) (by omega) (by omega))
            · refine R_iload (k := 4) rfl rfl ?_
              refine R_istore_n (k := 1) rfl [(1, .inl x42), (4, .inl x42), (3, .inl x26), (2, .inl x25), (0, .inr (.inr (.inl 0)))] rfl rfl (by decide) ?_
              refine R_iload_n (k := 3) rfl rfl rfl ?_
              refine R_istore_n (k := 2) rfl [(2, .inl x26), (1, .inl x42), (4, .inl x42), (3, .inl x26), (0, .inr (.inr (.inl 0)))] rfl rfl (by decide) ?_
              refine N_iinc (a := x26.toInt) (c := 1) (fun w => [(3, .inl w), (2, .inl x26), (1, .inl x42), (4, .inl x42), (0, .inr (.inr (.inl 0)))]) rfl rfl (fun _ => rfl) (by decide) rfl (by decide) (by omega) (fun x52 q53 => ?_)
              refine R_goto 22 rfl rfl ?_
              exact RUN_weak (psub_cons rfl (psub_cons rfl (psub_cons rfl (psub_cons rfl (psub_nil _))))) (ih27 h40 x42 x26 x52 hI fr fl23 (by omega) (by omega) (by omega))
      exact lp21 _ h13 x15 ((-1) : Int32) (0 : Int32) hI fr (FR.rf _ _) (by decide) (by decide) (Nat.lt_succ_self _)
    · exfalso; omega
abbrev q_X8_waterByBuckets (h : PH) (a0 : Int32) : Option PV → PH → Prop := fun r h' => INV h' ∧ FR [70, 71, 72, 73, 74] h h' ∧ ∃ z : Int32, r = some (.inl z) ∧ ((True))
set_option maxHeartbeats 4000000 in
set_option maxRecDepth 100000 in
theorem k_X8_waterByBuckets (h : PH) (hI : INV h) (a0 : Int32) (h0a : 1 ≤ a0.toInt ∧ a0.toInt ≤ 8) : CALL d_X8_waterByBuckets [.inr (.inr (.inl 0)), .inl a0] h (q_X8_waterByBuckets h a0) := by
  show RUN d_X8_waterByBuckets 0 [(0, .inr (.inr (.inl 0))), (1, .inl a0)] [] h _
  have fr : FR [70, 71, 72, 73, 74] h h := FR.rf _ _
  refine R_aload_n (k := 0) rfl rfl rfl ?_
  refine R_callV (v := .inr (.inr (.inl 0))) (As := []) (rest := []) rfl mt_8_i237 pp_X8_lineAsNow (by decide) rfl rfl rfl (Nat.le_of_ble_eq_true rfl) (Nat.le_of_ble_eq_true rfl) ((k_X8_lineAsNow h hI).mono (fun r1 h2 p3 => ?_))
  obtain ⟨hJ, fj, rfl⟩ := p3
  have f4 := fj
  have fr := fr.trans fj (by decide)
  have hI := hJ
  show RUN d_X8_waterByBuckets 4 [(0, .inr (.inr (.inl 0))), (1, .inl a0)] [] h2 _
  refine R_aload_n (k := 0) rfl rfl rfl ?_
  refine R_getf_r (j := 7) rfl ft_8_49 sh_0 rfl ?_
  refine R_iload_n (k := 1) rfl rfl rfl ?_
  refine K_putf (j := 5) (lo := (-2147483648)) (hi' := 2147483647) rfl ft_8_240 sh_70 rfl hI (by decide) rfl (i_rng _) fr (by decide) (fun h5 g6 hI fr => ?_)
  have s7 : (h5.1 70 5).toInt = a0.toInt := by rw [g6, wI_is]
  refine R_aload_n (k := 0) rfl rfl rfl ?_
  refine R_callV (v := .inr (.inr (.inl 0))) (As := []) (rest := []) rfl mt_8_i268 pp_X8_waterOfLine (by decide) rfl rfl rfl (Nat.le_of_ble_eq_true rfl) (Nat.le_of_ble_eq_true rfl) ((k_X8_waterOfLine h5 hI).mono (fun r8 h9 p10 => ?_))
  obtain ⟨hJ, fj, x11, rfl, q12⟩ := p10
  have f13 := fj
  have fr := fr.trans fj (by decide)
  have hI := hJ
  show RUN d_X8_waterByBuckets 16 [(0, .inr (.inr (.inl 0))), (1, .inl a0)] [.inl x11] h9 _
  exact R_iret rfl rfl rfl ⟨hI, fr, _, rfl, trivial⟩
abbrev q_X8_enough (h : PH)  : Option PV → PH → Prop := fun r h' => INV h' ∧ FR [70, 71, 72, 73, 74] h h' ∧ ∃ z : Int32, r = some (.inl z) ∧ (((-2) ≤ z.toInt ∧ z.toInt ≤ 2147483647))
set_option maxHeartbeats 4000000 in
set_option maxRecDepth 100000 in
theorem k_X8_enough (h : PH) (hI : INV h)  : CALL d_X8_enough [.inr (.inr (.inl 0))] h (q_X8_enough h) := by
  show RUN d_X8_enough 0 [(0, .inr (.inr (.inl 0)))] [] h _
  have fr : FR [70, 71, 72, 73, 74] h h := FR.rf _ _
  refine R_aload_n (k := 0) rfl rfl rfl ?_
  refine R_getf_r (j := 3) rfl ft_8_28 sh_0 rfl ?_
  refine R_callV (v := .inr (.inr (.inl 16))) (As := []) (rest := []) rfl mt_8_i146 pp_X1_stands (by decide) rfl rfl rfl (Nat.le_of_ble_eq_true rfl) (Nat.le_of_ble_eq_true rfl) ((k_X1_stands h hI).mono (fun r1 h2 p3 => ?_))
  obtain ⟨rfl, x4, rfl, q5 | q5⟩ := p3
  · have b6 : (0 : Int) ≤ (h.1 17 0).toInt ∧ (h.1 17 0).toInt ≤ 60 := hI.1 17 0
    have e7 : 0 < (h.1 17 10).toInt → 1 ≤ (h.1 17 0).toInt := hI.2.1
    show RUN d_X8_enough 7 [(0, .inr (.inr (.inl 0)))] [.inl x4] h _
    refine N_if_ne (a := x4.toInt) 13 rfl rfl rfl (fun c8 => ?_) (fun c8 => ?_)
    · exfalso; omega
    · refine R_bipush (-2) rfl rfl ?_
      exact R_iret rfl rfl rfl ⟨hI, fr, _, rfl, by rw [show ((-2) : Int32).toInt = (-2) from rfl]; omega⟩
  · have b9 : (0 : Int) ≤ (h.1 17 0).toInt ∧ (h.1 17 0).toInt ≤ 60 := hI.1 17 0
    have e10 : 0 < (h.1 17 10).toInt → 1 ≤ (h.1 17 0).toInt := hI.2.1
    show RUN d_X8_enough 7 [(0, .inr (.inr (.inl 0)))] [.inl x4] h _
    refine N_if_ne (a := x4.toInt) 13 rfl rfl rfl (fun c11 => ?_) (fun c11 => ?_)
    · refine R_aload_n (k := 0) rfl rfl rfl ?_
      refine R_bipush 8 rfl rfl ?_
      have k12 : (8 : Int32).toInt = 8 := by decide
      refine R_callV (v := .inr (.inr (.inl 0))) (As := [.inl 8]) (rest := []) rfl mt_8_i255 pp_X8_waterByBuckets (by decide) rfl rfl rfl (Nat.le_of_ble_eq_true rfl) (Nat.le_of_ble_eq_true rfl) ((k_X8_waterByBuckets h hI (8 : Int32) (by decide)).mono (fun r13 h14 p15 => ?_))
      obtain ⟨hJ, fj, x16, rfl, q17⟩ := p15
      have f18 := fj
      have fr := fr.trans fj (by decide)
      have hI := hJ
      have s19 : (h14.1 17 0).toInt = (h.1 17 0).toInt := by rw [(f18 17 (by decide)).1]
      have s20 : (h14.1 17 10).toInt = (h.1 17 10).toInt := by rw [(f18 17 (by decide)).1]
      show RUN d_X8_enough 19 [(0, .inr (.inr (.inl 0)))] [.inl x16] h14 _
      refine R_istore_n (k := 1) rfl [(1, .inl x16), (0, .inr (.inr (.inl 0)))] rfl rfl (by decide) ?_
      refine R_iconst 1 rfl rfl ?_
      refine R_istore_n (k := 2) rfl [(2, .inl 1), (1, .inl x16), (0, .inr (.inr (.inl 0)))] rfl rfl (by decide) ?_
      have lp22 : ∀ (n21 : Nat) (h23 : PH) (x25 : Int32), INV h23 → FR [70, 71, 72, 73, 74] h h23 → FR [70, 71, 72, 73, 74] h14 h23 → 1 ≤ x25.toInt ∧ x25.toInt ≤ 2147483647 → (2147483647 - x25.toInt).toNat < n21 → RUN d_X8_enough 22 [(2, .inl x25), (1, .inl x16), (0, .inr (.inr (.inl 0)))] [] h23 (q_X8_enough h) := by
        intro n21
        induction n21 with
        | zero => intro h23 x25 m27 m28 m29 m30 hz; exact absurd hz (Nat.not_lt_zero _)
        | succ n21 ih26 =>
          intro h23 x25 hI fr fl24 m30 hz
          have s31 : (h23.1 17 0).toInt = (h14.1 17 0).toInt := by rw [(fl24 17 (by decide)).1]
          have s32 : (h23.1 17 10).toInt = (h14.1 17 10).toInt := by rw [(fl24 17 (by decide)).1]
          refine R_iload_n (k := 2) rfl rfl rfl ?_
          refine R_bipush 8 rfl rfl ?_
          refine N_icmp_ge (a := x25.toInt) (b := 8) 43 rfl rfl rfl (by decide) (fun c33 => ?_) (fun c33 => ?_)
          · refine R_iload_n (k := 2) rfl rfl rfl ?_
            have b34 := i_rng x25
            exact R_iret rfl rfl rfl ⟨hI, fr, _, rfl, by omega⟩
          · refine R_aload_n (k := 0) rfl rfl rfl ?_
            refine R_iload_n (k := 2) rfl rfl rfl ?_
            refine R_callV (v := .inr (.inr (.inl 0))) (As := [.inl x25]) (rest := []) rfl mt_8_i255 pp_X8_waterByBuckets (by decide) rfl rfl rfl (Nat.le_of_ble_eq_true rfl) (Nat.le_of_ble_eq_true rfl) ((k_X8_waterByBuckets h23 hI x25 (by omega)).mono (fun r35 h36 p37 => ?_))
            obtain ⟨hJ, fj, x38, rfl, q39⟩ := p37
            have f40 := fj
            have fr := fr.trans fj (by decide)
            have hI := hJ
            have fl24 : FR [70, 71, 72, 73, 74] h14 h36 := fl24.trans fj (by decide)
            have s41 : (h36.1 17 0).toInt = (h23.1 17 0).toInt := by rw [(f40 17 (by decide)).1]
            have s42 : (h36.1 17 10).toInt = (h23.1 17 10).toInt := by rw [(f40 17 (by decide)).1]
            show RUN d_X8_enough 33 [(2, .inl x25), (1, .inl x16), (0, .inr (.inr (.inl 0)))] [.inl x38] h36 _
            refine R_iload_n (k := 1) rfl rfl rfl ?_
            refine N_icmp_ge (a := x38.toInt) (b := x16.toInt) 43 rfl rfl rfl rfl (fun c43 => ?_) (fun c43 => ?_)
            · refine R_iload_n (k := 2) rfl rfl rfl ?_
              exact R_iret rfl rfl rfl ⟨hI, fr, _, rfl, by omega⟩
            · refine N_iinc (a := x25.toInt) (c := 1) (fun w => [(2, .inl w), (1, .inl x16), (0, .inr (.inr (.inl 0)))]) rfl rfl (fun _ => rfl) (by decide) rfl (by decide) (by omega) (fun x44 q45 => ?_)
              refine R_goto 22 rfl rfl ?_
              exact RUN_weak (psub_cons rfl (psub_cons rfl (psub_cons rfl (psub_nil _)))) (ih26 h36 x44 hI fr fl24 (by omega) (by omega))
      exact lp22 _ h14 (1 : Int32) hI fr (FR.rf _ _) (by decide) (Nat.lt_succ_self _)
    · exfalso; omega
abbrev q_X8_size (h : PH)  : Option PV → PH → Prop := fun r h' => INV h' ∧ FR [0, 70, 71, 72, 73, 74, 75, 76, 77, 78, 79, 80, 81, 82, 83, 84, 85, 86] h h' ∧ ∃ z : Int32, r = some (.inl z) ∧ (((-2) ≤ z.toInt ∧ z.toInt ≤ 30))
set_option maxHeartbeats 4000000 in
set_option maxRecDepth 100000 in
theorem k_X8_size (h : PH) (hI : INV h)  : CALL d_X8_size [.inr (.inr (.inl 0))] h (q_X8_size h) := by
  show RUN d_X8_size 0 [(0, .inr (.inr (.inl 0)))] [] h _
  have fr : FR [0, 70, 71, 72, 73, 74, 75, 76, 77, 78, 79, 80, 81, 82, 83, 84, 85, 86] h h := FR.rf _ _
  refine R_aload_n (k := 0) rfl rfl rfl ?_
  refine R_getf_r (j := 3) rfl ft_8_28 sh_0 rfl ?_
  refine R_callV (v := .inr (.inr (.inl 16))) (As := []) (rest := []) rfl mt_8_i146 pp_X1_stands (by decide) rfl rfl rfl (Nat.le_of_ble_eq_true rfl) (Nat.le_of_ble_eq_true rfl) ((k_X1_stands h hI).mono (fun r1 h2 p3 => ?_))
  obtain ⟨rfl, x4, rfl, q5 | q5⟩ := p3
  · have b6 : (0 : Int) ≤ (h.1 17 0).toInt ∧ (h.1 17 0).toInt ≤ 60 := hI.1 17 0
    have e7 : 0 < (h.1 17 10).toInt → 1 ≤ (h.1 17 0).toInt := hI.2.1
    show RUN d_X8_size 7 [(0, .inr (.inr (.inl 0)))] [.inl x4] h _
    refine N_if_ne (a := x4.toInt) 13 rfl rfl rfl (fun c8 => ?_) (fun c8 => ?_)
    · exfalso; omega
    · refine R_bipush (-2) rfl rfl ?_
      exact R_iret rfl rfl rfl ⟨hI, fr, _, rfl, by rw [show ((-2) : Int32).toInt = (-2) from rfl]; omega⟩
  · have b9 : (0 : Int) ≤ (h.1 17 0).toInt ∧ (h.1 17 0).toInt ≤ 60 := hI.1 17 0
    have e10 : 0 < (h.1 17 10).toInt → 1 ≤ (h.1 17 0).toInt := hI.2.1
    show RUN d_X8_size 7 [(0, .inr (.inr (.inl 0)))] [.inl x4] h _
    refine N_if_ne (a := x4.toInt) 13 rfl rfl rfl (fun c11 => ?_) (fun c11 => ?_)
    · refine R_aload_n (k := 0) rfl rfl rfl ?_
      refine R_callV (v := .inr (.inr (.inl 0))) (As := []) (rest := []) rfl mt_8_i153 pp_X8_told (by decide) rfl rfl rfl (Nat.le_of_ble_eq_true rfl) (Nat.le_of_ble_eq_true rfl) ((k_X8_told h hI).mono (fun r12 h13 p14 => ?_))
      obtain ⟨hJ, fj, rfl⟩ := p14
      have f15 := fj
      have fr := fr.trans fj (by decide)
      have hI := hJ
      have s16 : (h13.1 17 0).toInt = (h.1 17 0).toInt := by rw [(f15 17 (by decide)).1]
      have s17 : (h13.1 17 10).toInt = (h.1 17 10).toInt := by rw [(f15 17 (by decide)).1]
      show RUN d_X8_size 17 [(0, .inr (.inr (.inl 0)))] [.inr (.inr (.inl 75))] h13 _
      refine R_getf_l (j := 11) rfl ft_8_212 sh_75 rfl ?_
      refine N_anyL (fun w18 => ?_)
      refine R_lstore_n (k := 1) rfl [(1, .inr (.inl w18)), (0, .inr (.inr (.inl 0)))] rfl rfl (by decide) ?_
      refine R_aload_n (k := 0) rfl rfl rfl ?_
      refine R_callV (v := .inr (.inr (.inl 0))) (As := []) (rest := []) rfl mt_8_i237 pp_X8_lineAsNow (by decide) rfl rfl rfl (Nat.le_of_ble_eq_true rfl) (Nat.le_of_ble_eq_true rfl) ((k_X8_lineAsNow h13 hI).mono (fun r19 h20 p21 => ?_))
      obtain ⟨hJ, fj, rfl⟩ := p21
      have f22 := fj
      have fr := fr.trans fj (by decide)
      have hI := hJ
      have s23 : (h20.1 17 0).toInt = (h13.1 17 0).toInt := by rw [(f22 17 (by decide)).1]
      have s24 : (h20.1 17 10).toInt = (h13.1 17 10).toInt := by rw [(f22 17 (by decide)).1]
      show RUN d_X8_size 25 [(1, .inr (.inl w18)), (0, .inr (.inr (.inl 0)))] [] h20 _
      refine R_iconst 1 rfl rfl ?_
      refine R_istore_n (k := 3) rfl [(3, .inl 1), (1, .inr (.inl w18)), (0, .inr (.inr (.inl 0)))] rfl rfl (by decide) ?_
      have lp26 : ∀ (n25 : Nat) (h27 : PH) (x29 : Int32), INV h27 → FR [0, 70, 71, 72, 73, 74, 75, 76, 77, 78, 79, 80, 81, 82, 83, 84, 85, 86] h h27 → FR [70] h20 h27 → 1 ≤ x29.toInt ∧ x29.toInt ≤ 2147483647 → (2147483647 - x29.toInt).toNat < n25 → RUN d_X8_size 27 [(3, .inl x29), (1, .inr (.inl w18)), (0, .inr (.inr (.inl 0)))] [] h27 (q_X8_size h) := by
        intro n25
        induction n25 with
        | zero => intro h27 x29 m31 m32 m33 m34 hz; exact absurd hz (Nat.not_lt_zero _)
        | succ n25 ih30 =>
          intro h27 x29 hI fr fl28 m34 hz
          have s35 : (h27.1 17 0).toInt = (h20.1 17 0).toInt := by rw [(fl28 17 (by decide)).1]
          have s36 : (h27.1 17 10).toInt = (h20.1 17 10).toInt := by rw [(fl28 17 (by decide)).1]
          refine R_iload_n (k := 3) rfl rfl rfl ?_
          refine R_bipush 30 rfl rfl ?_
          refine N_icmp_gt (a := x29.toInt) (b := 30) 65 rfl rfl rfl (by decide) (fun c37 => ?_) (fun c37 => ?_)
          · refine R_iconst (-1) rfl rfl ?_
            exact R_iret rfl rfl rfl ⟨hI, fr, _, rfl, by rw [show ((-1) : Int32).toInt = (-1) from rfl]; omega⟩
          · refine R_aload_n (k := 0) rfl rfl rfl ?_
            refine R_getf_r (j := 7) rfl ft_8_49 sh_0 rfl ?_
            refine R_iload_n (k := 3) rfl rfl rfl ?_
            refine K_putf (j := 6) (lo := (-2147483648)) (hi' := 2147483647) rfl ft_8_258 sh_70 rfl hI (by decide) rfl (i_rng _) fr (by decide) (fun h38 g39 hI fr => ?_)
            have fl28 : FR [70] h20 h38 := by rw [g39]; exact FR_wI _ _ fl28 (by decide)
            have s40 : (h38.1 17 0).toInt = (h27.1 17 0).toInt := by rw [g39, wI_ne _ _ _ (by decide)]
            have s41 : (h38.1 17 10).toInt = (h27.1 17 10).toInt := by rw [g39, wI_ne _ _ _ (by decide)]
            have s42 : (h38.1 70 6).toInt = x29.toInt := by rw [g39, wI_is]
            refine R_aload_n (k := 0) rfl rfl rfl ?_
            refine R_lload_n (k := 1) rfl rfl rfl ?_
            refine R_aload_n (k := 0) rfl rfl rfl ?_
            refine R_getf_r (j := 7) rfl ft_8_49 sh_0 rfl ?_
            refine R_callV (v := .inr (.inr (.inl 70))) (As := []) (rest := [.inr (.inl w18), .inr (.inr (.inl 0))]) rfl mt_8_i247 pp_X2_poured (by decide) rfl rfl rfl (Nat.le_of_ble_eq_true rfl) (Nat.le_of_ble_eq_true rfl) ((k_X2_poured h38 hI).mono (fun r43 h44 p45 => ?_))
            obtain ⟨rfl, x46, rfl, q47⟩ := p45
            show RUN d_X8_size 50 [(3, .inl x29), (1, .inr (.inl w18)), (0, .inr (.inr (.inl 0)))] [.inl x46, .inr (.inl w18), .inr (.inr (.inl 0))] h38 _
            refine R_callV (v := .inr (.inr (.inl 0))) (As := [.inr (.inl w18), .inl x46]) (rest := []) rfl mt_8_i219 pp_X8_outBy (by decide) rfl rfl rfl (Nat.le_of_ble_eq_true rfl) (Nat.le_of_ble_eq_true rfl) ((k_X8_outBy h38 hI w18 x46).mono (fun r48 h49 p50 => ?_))
            obtain ⟨rfl, x51, rfl, q52⟩ := p50
            show RUN d_X8_size 53 [(3, .inl x29), (1, .inr (.inl w18)), (0, .inr (.inr (.inl 0)))] [.inl x51] h38 _
            refine R_iconst (-1) rfl rfl ?_
            refine N_icmp_eq (a := x51.toInt) (b := (-1)) 59 rfl rfl rfl (by decide) (fun c53 => ?_) (fun c53 => ?_)
            · refine N_iinc (a := x29.toInt) (c := 1) (fun w => [(3, .inl w), (1, .inr (.inl w18)), (0, .inr (.inr (.inl 0)))]) rfl rfl (fun _ => rfl) (by decide) rfl (by decide) (by omega) (fun x54 q55 => ?_)
              refine R_goto 27 rfl rfl ?_
              exact RUN_weak (psub_cons rfl (psub_cons rfl (psub_cons rfl (psub_nil _)))) (ih30 h38 x54 hI fr fl28 (by omega) (by omega))
            · refine R_iload_n (k := 3) rfl rfl rfl ?_
              exact R_iret rfl rfl rfl ⟨hI, fr, _, rfl, by omega⟩
      exact lp26 _ h20 (1 : Int32) hI fr (FR.rf _ _) (by decide) (Nat.lt_succ_self _)
    · exfalso; omega
abbrev q_X8_heat (h : PH)  : Option PV → PH → Prop := fun r h' => INV h' ∧ FR [0, 70, 71, 72, 73, 74, 75, 76, 77, 78, 79, 80, 81, 82, 83, 84, 85, 86] h h' ∧ ∃ z : Int32, r = some (.inl z) ∧ (((-2) ≤ z.toInt ∧ z.toInt ≤ 999))
set_option maxHeartbeats 4000000 in
set_option maxRecDepth 100000 in
theorem k_X8_heat (h : PH) (hI : INV h)  : CALL d_X8_heat [.inr (.inr (.inl 0))] h (q_X8_heat h) := by
  show RUN d_X8_heat 0 [(0, .inr (.inr (.inl 0)))] [] h _
  have fr : FR [0, 70, 71, 72, 73, 74, 75, 76, 77, 78, 79, 80, 81, 82, 83, 84, 85, 86] h h := FR.rf _ _
  refine R_aload_n (k := 0) rfl rfl rfl ?_
  refine R_getf_r (j := 3) rfl ft_8_28 sh_0 rfl ?_
  refine R_callV (v := .inr (.inr (.inl 16))) (As := []) (rest := []) rfl mt_8_i146 pp_X1_stands (by decide) rfl rfl rfl (Nat.le_of_ble_eq_true rfl) (Nat.le_of_ble_eq_true rfl) ((k_X1_stands h hI).mono (fun r1 h2 p3 => ?_))
  obtain ⟨rfl, x4, rfl, q5 | q5⟩ := p3
  · have b6 : (0 : Int) ≤ (h.1 17 0).toInt ∧ (h.1 17 0).toInt ≤ 60 := hI.1 17 0
    have e7 : 0 < (h.1 17 10).toInt → 1 ≤ (h.1 17 0).toInt := hI.2.1
    show RUN d_X8_heat 7 [(0, .inr (.inr (.inl 0)))] [.inl x4] h _
    refine N_if_ne (a := x4.toInt) 13 rfl rfl rfl (fun c8 => ?_) (fun c8 => ?_)
    · exfalso; omega
    · refine R_bipush (-2) rfl rfl ?_
      exact R_iret rfl rfl rfl ⟨hI, fr, _, rfl, by rw [show ((-2) : Int32).toInt = (-2) from rfl]; omega⟩
  · have b9 : (0 : Int) ≤ (h.1 17 0).toInt ∧ (h.1 17 0).toInt ≤ 60 := hI.1 17 0
    have e10 : 0 < (h.1 17 10).toInt → 1 ≤ (h.1 17 0).toInt := hI.2.1
    show RUN d_X8_heat 7 [(0, .inr (.inr (.inl 0)))] [.inl x4] h _
    refine N_if_ne (a := x4.toInt) 13 rfl rfl rfl (fun c11 => ?_) (fun c11 => ?_)
    · refine R_aload_n (k := 0) rfl rfl rfl ?_
      refine R_callV (v := .inr (.inr (.inl 0))) (As := []) (rest := []) rfl mt_8_i153 pp_X8_told (by decide) rfl rfl rfl (Nat.le_of_ble_eq_true rfl) (Nat.le_of_ble_eq_true rfl) ((k_X8_told h hI).mono (fun r12 h13 p14 => ?_))
      obtain ⟨hJ, fj, rfl⟩ := p14
      have f15 := fj
      have fr := fr.trans fj (by decide)
      have hI := hJ
      have s16 : (h13.1 17 0).toInt = (h.1 17 0).toInt := by rw [(f15 17 (by decide)).1]
      have s17 : (h13.1 17 10).toInt = (h.1 17 10).toInt := by rw [(f15 17 (by decide)).1]
      show RUN d_X8_heat 17 [(0, .inr (.inr (.inl 0)))] [.inr (.inr (.inl 75))] h13 _
      refine R_pop_r rfl ?_
      refine R_iconst (-1) rfl rfl ?_
      refine R_istore_n (k := 1) rfl [(1, .inl (-1)), (0, .inr (.inr (.inl 0)))] rfl rfl (by decide) ?_
      refine R_iconst 0 rfl rfl ?_
      refine R_istore_n (k := 2) rfl [(2, .inl 0), (1, .inl (-1)), (0, .inr (.inr (.inl 0)))] rfl rfl (by decide) ?_
      have lp19 : ∀ (n18 : Nat) (x20 : Int32) (x21 : Int32), (-1) ≤ x20.toInt ∧ x20.toInt ≤ 2147483647 → 0 ≤ x21.toInt ∧ x21.toInt ≤ 2147483647 → (2147483647 - x21.toInt).toNat < n18 → RUN d_X8_heat 22 [(2, .inl x21), (1, .inl x20), (0, .inr (.inr (.inl 0)))] [] h13 (q_X8_heat h) := by
        intro n18
        induction n18 with
        | zero => intro x20 x21 m23 m24 hz; exact absurd hz (Nat.not_lt_zero _)
        | succ n18 ih22 =>
          intro x20 x21 m23 m24 hz
          refine R_iload_n (k := 2) rfl rfl rfl ?_
          refine R_aload_n (k := 0) rfl rfl rfl ?_
          refine R_getf_r (j := 3) rfl ft_8_28 sh_0 rfl ?_
          refine R_getf_r (j := 0) rfl ft_8_109 sh_16 rfl ?_
          refine R_iconst 0 rfl rfl ?_
          refine R_iald rfl sh_17 (by decide) ?_
          show RUN d_X8_heat 32 [(2, .inl x21), (1, .inl x20), (0, .inr (.inr (.inl 0)))] [.inl (h13.1 17 0), .inl x21] h13 _
          refine N_icmp_ge (a := x21.toInt) (b := (h13.1 17 0).toInt) 67 rfl rfl rfl rfl (fun c25 => ?_) (fun c25 => ?_)
          · refine R_iload_n (k := 1) rfl rfl rfl ?_
            refine R_sipush 999 rfl rfl ?_
            refine N_min (a := x20.toInt) (b := 999) rfl mt_8_i261 rfl (by decide) ⟨by decide, by decide, Nat.le_of_ble_eq_true rfl⟩ (fun x26 q27 => ?_)
            exact R_iret rfl rfl rfl ⟨hI, fr, _, rfl, by omega⟩
          · refine R_iload_n (k := 1) rfl rfl rfl ?_
            refine R_aload_n (k := 0) rfl rfl rfl ?_
            refine R_getf_r (j := 8) rfl ft_8_56 sh_0 rfl ?_
            refine R_iload_n (k := 2) rfl rfl rfl ?_
            refine R_callV (v := .inr (.inr (.inl 75))) (As := [.inl x21]) (rest := [.inl x20]) rfl mt_8_i196 pp_X6_waterTo (by decide) rfl rfl rfl (Nat.le_of_ble_eq_true rfl) (Nat.le_of_ble_eq_true rfl) ((k_X6_waterTo h13 hI x21 (by omega)).mono (fun r28 h29 p30 => ?_))
            obtain ⟨rfl, x31, rfl, q32⟩ := p30
            show RUN d_X8_heat 44 [(2, .inl x21), (1, .inl x20), (0, .inr (.inr (.inl 0)))] [.inl x31, .inl x20] h13 _
            refine R_iload_n (k := 2) rfl rfl rfl ?_
            refine R_aload_n (k := 0) rfl rfl rfl ?_
            refine R_getf_r (j := 3) rfl ft_8_28 sh_0 rfl ?_
            refine R_getf_r (j := 0) rfl ft_8_109 sh_16 rfl ?_
            refine R_bipush 8 rfl rfl ?_
            refine R_iald rfl sh_17 (by decide) ?_
            show RUN d_X8_heat 55 [(2, .inl x21), (1, .inl x20), (0, .inr (.inr (.inl 0)))] [.inl (h13.1 17 8), .inl x21, .inl x31, .inl x20] h13 _
            have b33 := i_rng (h13.1 17 8)
            refine R_imul rfl ?_
            refine N_any (fun x34 => ?_)
            have b35 := i_rng x31
            have b36 := i_rng x34
            refine R_isub rfl ?_
            refine N_any (fun x37 => ?_)
            refine N_max (a := x20.toInt) (b := x37.toInt) rfl mt_8_i223 rfl rfl ⟨by decide, by decide, Nat.le_of_ble_eq_true rfl⟩ (fun x38 q39 => ?_)
            refine R_istore_n (k := 1) rfl [(1, .inl x38), (2, .inl x21), (0, .inr (.inr (.inl 0)))] rfl rfl (by decide) ?_
            refine N_iinc (a := x21.toInt) (c := 1) (fun w => [(2, .inl w), (1, .inl x38), (0, .inr (.inr (.inl 0)))]) rfl rfl (fun _ => rfl) (by decide) rfl (by decide) (by omega) (fun x40 q41 => ?_)
            refine R_goto 22 rfl rfl ?_
            have b42 := i_rng x38
            exact RUN_weak (psub_cons rfl (psub_cons rfl (psub_cons rfl (psub_nil _)))) (ih22 x38 x40 (by omega) (by omega) (by omega))
      exact lp19 _ ((-1) : Int32) (0 : Int32) (by decide) (by decide) (Nat.lt_succ_self _)
    · exfalso; omega
abbrev q_X3_brokenPairs (h : PH) (a1 : Int32) : Option PV → PH → Prop := fun r h' => INV h' ∧ FR [89] h h' ∧ ∃ z : Int32, r = some (.inl z) ∧ ((True))
set_option maxHeartbeats 4000000 in
set_option maxRecDepth 100000 in
theorem k_X3_brokenPairs (h : PH) (hI : INV h) (a1 : Int32) (h1a : 0 ≤ a1.toInt ∧ a1.toInt ≤ 6) : CALL d_X3_brokenPairs [.inr (.inr (.inl 87)), .inr (.inr (.inl 16)), .inl a1] h (q_X3_brokenPairs h a1) := by
  show RUN d_X3_brokenPairs 0 [(0, .inr (.inr (.inl 87))), (1, .inr (.inr (.inl 16))), (2, .inl a1)] [] h _
  have fr : FR [89] h h := FR.rf _ _
  refine R_iconst 0 rfl rfl ?_
  refine R_istore_n (k := 3) rfl [(3, .inl 0), (0, .inr (.inr (.inl 87))), (1, .inr (.inr (.inl 16))), (2, .inl a1)] rfl rfl (by decide) ?_
  have lp2 : ∀ (n1 : Nat) (h3 : PH) (x5 : Int32), INV h3 → FR [89] h h3 → FR [89] h h3 → 0 ≤ x5.toInt ∧ x5.toInt ≤ 2147483647 → (2147483647 - x5.toInt).toNat < n1 → RUN d_X3_brokenPairs 2 [(3, .inl x5), (0, .inr (.inr (.inl 87))), (1, .inr (.inr (.inl 16))), (2, .inl a1)] [] h3 (q_X3_brokenPairs h a1) := by
    intro n1
    induction n1 with
    | zero => intro h3 x5 m7 m8 m9 m10 hz; exact absurd hz (Nat.not_lt_zero _)
    | succ n1 ih6 =>
      intro h3 x5 hI fr fl4 m10 hz
      refine R_iload_n (k := 3) rfl rfl rfl ?_
      refine R_iload_n (k := 2) rfl rfl rfl ?_
      refine N_icmp_ge (a := x5.toInt) (b := a1.toInt) 25 rfl rfl rfl rfl (fun c11 => ?_) (fun c11 => ?_)
      · refine R_iconst 0 rfl rfl ?_
        refine R_istore_n (k := 3) rfl [(3, .inl 0), (0, .inr (.inr (.inl 87))), (1, .inr (.inr (.inl 16))), (2, .inl a1)] rfl rfl (by decide) ?_
        refine R_iconst 0 rfl rfl ?_
        refine R_istore (k := 4) [(4, .inl 0), (3, .inl 0), (0, .inr (.inr (.inl 87))), (1, .inr (.inr (.inl 16))), (2, .inl a1)] rfl rfl (by decide) ?_
        have lp13 : ∀ (n12 : Nat) (x14 : Int32) (x15 : Int32), 0 ≤ x15.toInt ∧ x15.toInt ≤ 5 → (5 - x15.toInt).toNat < n12 → RUN d_X3_brokenPairs 30 [(4, .inl x15), (3, .inl x14), (0, .inr (.inr (.inl 87))), (1, .inr (.inr (.inl 16))), (2, .inl a1)] [] h3 (q_X3_brokenPairs h a1) := by
          intro n12
          induction n12 with
          | zero => intro x14 x15 m17 hz; exact absurd hz (Nat.not_lt_zero _)
          | succ n12 ih16 =>
            intro x14 x15 m17 hz
            refine R_iload (k := 4) rfl rfl ?_
            refine R_aload_n (k := 1) rfl rfl rfl ?_
            refine R_getf_r (j := 0) rfl ft_3_41 sh_16 rfl ?_
            refine R_bipush 6 rfl rfl ?_
            refine R_iald rfl sh_17 (by decide) ?_
            have b18 : (0 : Int) ≤ (h3.1 17 6).toInt ∧ (h3.1 17 6).toInt ≤ 5 := hI.1 17 6
            show RUN d_X3_brokenPairs 39 [(4, .inl x15), (3, .inl x14), (0, .inr (.inr (.inl 87))), (1, .inr (.inr (.inl 16))), (2, .inl a1)] [.inl (h3.1 17 6), .inl x15] h3 _
            refine N_icmp_ge (a := x15.toInt) (b := (h3.1 17 6).toInt) 96 rfl rfl rfl rfl (fun c19 => ?_) (fun c19 => ?_)
            · refine R_iload_n (k := 3) rfl rfl rfl ?_
              exact R_iret rfl rfl rfl ⟨hI, fr, _, rfl, trivial⟩
            · refine R_aload_n (k := 0) rfl rfl rfl ?_
              refine R_getf_r (j := 1) rfl ft_3_15 sh_87 rfl ?_
              refine R_aload_n (k := 1) rfl rfl rfl ?_
              refine R_getf_r (j := 5) rfl ft_3_122 sh_16 rfl ?_
              refine R_iload (k := 4) rfl rfl ?_
              refine R_iald rfl sh_22 ⟨by omega, by omega⟩ ?_
              refine N_bd (lo := 0) (hi := 5) (hI.1 22 _) (fun x20 q21 => ?_)
              refine R_iald rfl sh_89 ⟨by omega, by omega⟩ ?_
              refine N_any (fun x22 => ?_)
              refine R_istore (k := 5) [(5, .inl x22), (4, .inl x15), (3, .inl x14), (0, .inr (.inr (.inl 87))), (1, .inr (.inr (.inl 16))), (2, .inl a1)] rfl rfl (by decide) ?_
              refine R_aload_n (k := 0) rfl rfl rfl ?_
              refine R_getf_r (j := 1) rfl ft_3_15 sh_87 rfl ?_
              refine R_aload_n (k := 1) rfl rfl rfl ?_
              refine R_getf_r (j := 6) rfl ft_3_125 sh_16 rfl ?_
              refine R_iload (k := 4) rfl rfl ?_
              refine R_iald rfl sh_23 ⟨by omega, by omega⟩ ?_
              refine N_bd (lo := 0) (hi := 5) (hI.1 23 _) (fun x23 q24 => ?_)
              refine R_iald rfl sh_89 ⟨by omega, by omega⟩ ?_
              refine N_any (fun x25 => ?_)
              refine R_istore (k := 6) [(6, .inl x25), (5, .inl x22), (4, .inl x15), (3, .inl x14), (0, .inr (.inr (.inl 87))), (1, .inr (.inr (.inl 16))), (2, .inl a1)] rfl rfl (by decide) ?_
              refine R_aload_n (k := 1) rfl rfl rfl ?_
              refine R_iload (k := 4) rfl rfl ?_
              refine R_iload (k := 5) rfl rfl ?_
              refine R_iload (k := 6) rfl rfl ?_
              refine R_callV (v := .inr (.inr (.inl 16))) (As := [.inl x15, .inl x22, .inl x25]) (rest := []) rfl mt_3_i128 pp_X1_keptAt (by decide) rfl rfl rfl (Nat.le_of_ble_eq_true rfl) (Nat.le_of_ble_eq_true rfl) ((k_X1_keptAt h3 hI x15 x22 x25 (by omega)).mono (fun r26 h27 p28 => ?_))
              obtain ⟨rfl, x29, rfl, q30 | q30⟩ := p28
              · show RUN d_X3_brokenPairs 80 [(6, .inl x25), (5, .inl x22), (4, .inl x15), (3, .inl x14), (0, .inr (.inr (.inl 87))), (1, .inr (.inr (.inl 16))), (2, .inl a1)] [.inl x29] h3 _
                refine N_if_ne (a := x29.toInt) 90 rfl rfl rfl (fun c31 => ?_) (fun c31 => ?_)
                · refine N_iinc (a := x15.toInt) (c := 1) (fun w => [(4, .inl w), (6, .inl x25), (5, .inl x22), (3, .inl x14), (0, .inr (.inr (.inl 87))), (1, .inr (.inr (.inl 16))), (2, .inl a1)]) rfl rfl (fun _ => rfl) (by decide) rfl (by decide) (by omega) (fun x32 q33 => ?_)
                  refine R_goto 30 rfl rfl ?_
                  exact RUN_weak (psub_cons rfl (psub_cons rfl (psub_cons rfl (psub_cons rfl (psub_cons rfl (psub_nil _)))))) (ih16 x14 x32 (by omega) (by omega))
                · exfalso; omega
              · show RUN d_X3_brokenPairs 80 [(6, .inl x25), (5, .inl x22), (4, .inl x15), (3, .inl x14), (0, .inr (.inr (.inl 87))), (1, .inr (.inr (.inl 16))), (2, .inl a1)] [.inl x29] h3 _
                refine N_if_ne (a := x29.toInt) 90 rfl rfl rfl (fun c34 => ?_) (fun c34 => ?_)
                · exfalso; omega
                · refine R_iload_n (k := 3) rfl rfl rfl ?_
                  refine R_iconst 1 rfl rfl ?_
                  refine R_iload (k := 4) rfl rfl ?_
                  refine N_ishl1 (b := x15.toInt) rfl rfl (by omega) (fun x35 q36 => ?_)
                  refine R_ior rfl ?_
                  refine N_any (fun x37 => ?_)
                  refine R_istore_n (k := 3) rfl [(3, .inl x37), (6, .inl x25), (5, .inl x22), (4, .inl x15), (0, .inr (.inr (.inl 87))), (1, .inr (.inr (.inl 16))), (2, .inl a1)] rfl rfl (by decide) ?_
                  refine N_iinc (a := x15.toInt) (c := 1) (fun w => [(4, .inl w), (3, .inl x37), (6, .inl x25), (5, .inl x22), (0, .inr (.inr (.inl 87))), (1, .inr (.inr (.inl 16))), (2, .inl a1)]) rfl rfl (fun _ => rfl) (by decide) rfl (by decide) (by omega) (fun x38 q39 => ?_)
                  refine R_goto 30 rfl rfl ?_
                  exact RUN_weak (psub_cons rfl (psub_cons rfl (psub_cons rfl (psub_cons rfl (psub_cons rfl (psub_nil _)))))) (ih16 x37 x38 (by omega) (by omega))
        exact lp13 _ (0 : Int32) (0 : Int32) (by decide) (Nat.lt_succ_self _)
      · refine R_aload_n (k := 0) rfl rfl rfl ?_
        refine R_getf_r (j := 1) rfl ft_3_15 sh_87 rfl ?_
        refine R_aload_n (k := 0) rfl rfl rfl ?_
        refine R_getf_r (j := 0) rfl ft_3_9 sh_87 rfl ?_
        refine R_iload_n (k := 3) rfl rfl rfl ?_
        refine R_iald rfl sh_88 ⟨by omega, by omega⟩ ?_
        refine N_bd (lo := 0) (hi := 5) (hI.1 88 _) (fun x40 q41 => ?_)
        refine R_iload_n (k := 3) rfl rfl rfl ?_
        refine K_iast (a := x40.toInt) (lo := (-2147483648)) (hi' := 2147483647) rfl sh_89 rfl ⟨by omega, by omega⟩ hI (by decide) rfl (i_rng _) fr (by decide) (fun h42 g43 hI fr => ?_)
        have fl4 : FR [89] h h42 := by rw [g43]; exact FR_wI _ _ fl4 (by decide)
        refine N_iinc (a := x5.toInt) (c := 1) (fun w => [(3, .inl w), (0, .inr (.inr (.inl 87))), (1, .inr (.inr (.inl 16))), (2, .inl a1)]) rfl rfl (fun _ => rfl) (by decide) rfl (by decide) (by omega) (fun x44 q45 => ?_)
        refine R_goto 2 rfl rfl ?_
        exact RUN_weak (psub_cons rfl (psub_cons rfl (psub_cons rfl (psub_cons rfl (psub_nil _))))) (ih6 h42 x44 hI fr fl4 (by omega) (by omega))
  exact lp2 _ h (0 : Int32) hI fr (FR.rf _ _) (by decide) (Nat.lt_succ_self _)
abbrev q_X3_fewer (h : PH) (a0 : Int32) (a1 : Int32) : Option PV → PH → Prop := fun r h' => h = h' ∧ ∃ z : Int32, r = some (.inl z) ∧ ((True))
set_option maxHeartbeats 4000000 in
set_option maxRecDepth 100000 in
theorem k_X3_fewer (h : PH) (hI : INV h) (a0 : Int32) (a1 : Int32) : CALL d_X3_fewer [.inl a0, .inl a1] h (q_X3_fewer h a0 a1) := by
  show RUN d_X3_fewer 0 [(0, .inl a0), (1, .inl a1)] [] h _
  have b1 := i_rng a0
  have b2 := i_rng a1
  refine R_iload_n (k := 0) rfl rfl rfl ?_
  refine R_callS (As := [.inl a0]) (rest := []) rfl mt_3_i115 (by decide) pp_J6_bitCount_0f7a4 (by decide) rfl rfl (Nat.le_of_ble_eq_true rfl) (Nat.le_of_ble_eq_true rfl) ((k_J6_bitCount_0f7a4 h hI a0).mono (fun r3 h4 p5 => ?_))
  obtain ⟨rfl, x6, rfl, q7⟩ := p5
  show RUN d_X3_fewer 4 [(0, .inl a0), (1, .inl a1)] [.inl x6] h _
  refine R_iload_n (k := 1) rfl rfl rfl ?_
  refine R_callS (As := [.inl a1]) (rest := [.inl x6]) rfl mt_3_i115 (by decide) pp_J6_bitCount_0f7a4 (by decide) rfl rfl (Nat.le_of_ble_eq_true rfl) (Nat.le_of_ble_eq_true rfl) ((k_J6_bitCount_0f7a4 h hI a1).mono (fun r8 h9 p10 => ?_))
  obtain ⟨rfl, x11, rfl, q12⟩ := p10
  show RUN d_X3_fewer 8 [(0, .inl a0), (1, .inl a1)] [.inl x11, .inl x6] h _
  refine N_isub (a := x6.toInt) (b := x11.toInt) rfl rfl rfl (by omega) (fun x13 q14 => ?_)
  refine R_istore_n (k := 2) rfl [(2, .inl x13), (0, .inl a0), (1, .inl a1)] rfl rfl (by decide) ?_
  refine R_iload_n (k := 2) rfl rfl rfl ?_
  refine N_if_eq (a := x13.toInt) 24 rfl rfl rfl (fun c15 => ?_) (fun c15 => ?_)
  · refine R_iload_n (k := 0) rfl rfl rfl ?_
    refine R_iload_n (k := 1) rfl rfl rfl ?_
    refine N_min (a := a0.toInt) (b := a1.toInt) rfl mt_3_i119 rfl rfl ⟨by decide, by decide, Nat.le_of_ble_eq_true rfl⟩ (fun x16 q17 => ?_)
    exact R_iret rfl rfl rfl ⟨rfl, _, rfl, trivial⟩
  · refine R_iload_n (k := 2) rfl rfl rfl ?_
    refine N_if_ge (a := x13.toInt) 22 rfl rfl rfl (fun c18 => ?_) (fun c18 => ?_)
    · refine R_iload_n (k := 1) rfl rfl rfl ?_
      exact R_iret rfl rfl rfl ⟨rfl, _, rfl, trivial⟩
    · refine R_iload_n (k := 0) rfl rfl rfl ?_
      refine R_goto 23 rfl rfl ?_
      exact R_iret rfl rfl rfl ⟨rfl, _, rfl, trivial⟩
abbrev q_X3_addOrder (h : PH) (a0 : Int32) : Option PV → PH → Prop := fun r h' => INV h' ∧ FR [87, 90] h h' ∧ r = none
set_option maxHeartbeats 4000000 in
set_option maxRecDepth 100000 in
theorem k_X3_addOrder (h : PH) (hI : INV h) (a0 : Int32) (h0a : 0 ≤ a0.toInt ∧ a0.toInt ≤ 6) : CALL d_X3_addOrder [.inr (.inr (.inl 87)), .inl a0] h (q_X3_addOrder h a0) := by
  show RUN d_X3_addOrder 0 [(0, .inr (.inr (.inl 87))), (1, .inl a0)] [] h _
  have fr : FR [87, 90] h h := FR.rf _ _
  refine R_iconst 0 rfl rfl ?_
  refine R_istore_n (k := 2) rfl [(2, .inl 0), (0, .inr (.inr (.inl 87))), (1, .inl a0)] rfl rfl (by decide) ?_
  refine R_iconst 0 rfl rfl ?_
  refine R_istore_n (k := 3) rfl [(3, .inl 0), (2, .inl 0), (0, .inr (.inr (.inl 87))), (1, .inl a0)] rfl rfl (by decide) ?_
  have lp2 : ∀ (n1 : Nat) (h3 : PH) (x5 : Int32) (x6 : Int32), INV h3 → FR [87, 90] h h3 → FR [87, 90] h h3 → 0 ≤ x6.toInt ∧ x6.toInt ≤ 2147483647 → (2147483647 - x6.toInt).toNat < n1 → RUN d_X3_addOrder 4 [(3, .inl x6), (2, .inl x5), (0, .inr (.inr (.inl 87))), (1, .inl a0)] [] h3 (q_X3_addOrder h a0) := by
    intro n1
    induction n1 with
    | zero => intro h3 x5 x6 m8 m9 m10 m11 hz; exact absurd hz (Nat.not_lt_zero _)
    | succ n1 ih7 =>
      intro h3 x5 x6 hI fr fl4 m11 hz
      refine R_iload_n (k := 3) rfl rfl rfl ?_
      refine R_iload_n (k := 1) rfl rfl rfl ?_
      refine N_icmp_ge (a := x6.toInt) (b := a0.toInt) 28 rfl rfl rfl rfl (fun c12 => ?_) (fun c12 => ?_)
      · refine R_aload_n (k := 0) rfl rfl rfl ?_
        refine R_getf_i (j := 6) rfl ft_3_31 sh_87 rfl ?_
        have b13 : (0 : Int) ≤ (h3.1 87 6).toInt ∧ (h3.1 87 6).toInt ≤ 720 := hI.1 87 6
        refine R_sipush 720 rfl rfl ?_
        refine N_icmp_ge (a := (h3.1 87 6).toInt) (b := 720) 58 rfl rfl rfl (by decide) (fun c14 => ?_) (fun c14 => ?_)
        · exact R_vret rfl rfl ⟨hI, fr, rfl⟩
        · refine R_aload_n (k := 0) rfl rfl rfl ?_
          refine R_getf_r (j := 2) rfl ft_3_18 sh_87 rfl ?_
          refine R_aload_n (k := 0) rfl rfl rfl ?_
          refine R_getf_i (j := 6) rfl ft_3_31 sh_87 rfl ?_
          refine R_iload_n (k := 2) rfl rfl rfl ?_
          refine K_iast (a := (h3.1 87 6).toInt) (lo := (-2147483648)) (hi' := 2147483647) rfl sh_90 rfl ⟨by omega, by omega⟩ hI (by decide) rfl (i_rng _) fr (by decide) (fun h15 g16 hI fr => ?_)
          have fl4 : FR [87, 90] h h15 := by rw [g16]; exact FR_wI _ _ fl4 (by decide)
          have s17 : (h15.1 87 6).toInt = (h3.1 87 6).toInt := by rw [g16, wI_ne _ _ _ (by decide)]
          refine R_aload_n (k := 0) rfl rfl rfl ?_
          refine R_dup_r rfl ?_
          refine R_getf_i (j := 6) rfl ft_3_31 sh_87 rfl ?_
          refine R_iconst 1 rfl rfl ?_
          refine N_iadd (a := (h15.1 87 6).toInt) (b := 1) rfl rfl (by decide) (by omega) (fun x18 q19 => ?_)
          refine K_putf (j := 6) (lo := 0) (hi' := 720) rfl ft_3_31 sh_87 rfl hI (by decide) rfl (by omega) fr (by decide) (fun h20 g21 hI fr => ?_)
          have fl4 : FR [87, 90] h h20 := by rw [g21]; exact FR_wI _ _ fl4 (by decide)
          have s22 : (h20.1 87 6).toInt = x18.toInt := by rw [g21, wI_is]
          exact R_vret rfl rfl ⟨hI, fr, rfl⟩
      · refine R_iload_n (k := 2) rfl rfl rfl ?_
        refine R_aload_n (k := 0) rfl rfl rfl ?_
        refine R_getf_r (j := 0) rfl ft_3_9 sh_87 rfl ?_
        refine R_iload_n (k := 3) rfl rfl rfl ?_
        refine R_iald rfl sh_88 ⟨by omega, by omega⟩ ?_
        refine N_bd (lo := 0) (hi := 5) (hI.1 88 _) (fun x23 q24 => ?_)
        refine R_iconst 3 rfl rfl ?_
        refine R_iload_n (k := 3) rfl rfl rfl ?_
        refine N_imul (a := 3) (b := x6.toInt) rfl (by decide) rfl (by omega) (fun x25 q26 => ?_)
        refine R_ishl rfl ?_
        refine N_any (fun x27 => ?_)
        refine R_ior rfl ?_
        refine N_any (fun x28 => ?_)
        refine R_istore_n (k := 2) rfl [(2, .inl x28), (3, .inl x6), (0, .inr (.inr (.inl 87))), (1, .inl a0)] rfl rfl (by decide) ?_
        refine N_iinc (a := x6.toInt) (c := 1) (fun w => [(3, .inl w), (2, .inl x28), (0, .inr (.inr (.inl 87))), (1, .inl a0)]) rfl rfl (fun _ => rfl) (by decide) rfl (by decide) (by omega) (fun x29 q30 => ?_)
        refine R_goto 4 rfl rfl ?_
        exact RUN_weak (psub_cons rfl (psub_cons rfl (psub_cons rfl (psub_cons rfl (psub_nil _))))) (ih7 h3 x28 x29 hI fr fl4 (by omega) (by omega))
  exact lp2 _ h (0 : Int32) (0 : Int32) hI fr (FR.rf _ _) (by decide) (Nat.lt_succ_self _)
abbrev q_X9_keepsAll (h : PH)  : Option PV → PH → Prop := fun r h' => h = h' ∧ ∃ z : Int32, r = some (.inl z) ∧ ((z.toInt = 1) ∨ (z.toInt = 0 ∧ 1 ≤ (h.1 97 6).toInt ∧ (h.1 97 6).toInt ≤ 5))
set_option maxHeartbeats 4000000 in
set_option maxRecDepth 100000 in
theorem k_X9_keepsAll (h : PH) (hI : INV h)  : CALL d_X9_keepsAll [.inr (.inr (.inl 96))] h (q_X9_keepsAll h) := by
  show RUN d_X9_keepsAll 0 [(0, .inr (.inr (.inl 96)))] [] h _
  refine R_iconst 0 rfl rfl ?_
  refine R_istore_n (k := 1) rfl [(1, .inl 0), (0, .inr (.inr (.inl 96)))] rfl rfl (by decide) ?_
  have lp2 : ∀ (n1 : Nat) (x3 : Int32), 0 ≤ x3.toInt ∧ x3.toInt ≤ 5 → (5 - x3.toInt).toNat < n1 → RUN d_X9_keepsAll 2 [(1, .inl x3), (0, .inr (.inr (.inl 96)))] [] h (q_X9_keepsAll h) := by
    intro n1
    induction n1 with
    | zero => intro x3 m5 hz; exact absurd hz (Nat.not_lt_zero _)
    | succ n1 ih4 =>
      intro x3 m5 hz
      refine R_iload_n (k := 1) rfl rfl rfl ?_
      refine R_aload_n (k := 0) rfl rfl rfl ?_
      refine R_getf_r (j := 1) rfl ft_9_9 sh_96 rfl ?_
      refine R_bipush 6 rfl rfl ?_
      refine R_iald rfl sh_97 (by decide) ?_
      have b6 : (0 : Int) ≤ (h.1 97 6).toInt ∧ (h.1 97 6).toInt ≤ 5 := hI.1 97 6
      show RUN d_X9_keepsAll 10 [(1, .inl x3), (0, .inr (.inr (.inl 96)))] [.inl (h.1 97 6), .inl x3] h _
      refine N_icmp_ge (a := x3.toInt) (b := (h.1 97 6).toInt) 40 rfl rfl rfl rfl (fun c7 => ?_) (fun c7 => ?_)
      · refine R_iconst 1 rfl rfl ?_
        exact R_iret rfl rfl rfl ⟨rfl, _, rfl, by rw [show (1 : Int32).toInt = 1 from rfl]; omega⟩
      · refine R_aload_n (k := 0) rfl rfl rfl ?_
        refine R_getf_i (j := 44) rfl ft_9_399 sh_96 rfl ?_
        refine R_iload_n (k := 1) rfl rfl rfl ?_
        refine R_callS (As := [.inl (h.1 96 44), .inl x3]) (rest := []) rfl mt_9_i292 (by decide) pp_X9_bit (by decide) rfl rfl (Nat.le_of_ble_eq_true rfl) (Nat.le_of_ble_eq_true rfl) ((k_X9_bit h hI (h.1 96 44) x3 (by omega)).mono (fun r8 h9 p10 => ?_))
        obtain ⟨rfl, x11, rfl, q12⟩ := p10
        show RUN d_X9_keepsAll 21 [(1, .inl x3), (0, .inr (.inr (.inl 96)))] [.inl x11] h _
        refine N_if_ne (a := x11.toInt) 34 rfl rfl rfl (fun c13 => ?_) (fun c13 => ?_)
        · refine N_iinc (a := x3.toInt) (c := 1) (fun w => [(1, .inl w), (0, .inr (.inr (.inl 96)))]) rfl rfl (fun _ => rfl) (by decide) rfl (by decide) (by omega) (fun x14 q15 => ?_)
          refine R_goto 2 rfl rfl ?_
          exact RUN_weak (psub_cons rfl (psub_cons rfl (psub_nil _))) (ih4 x14 (by omega) (by omega))
        · refine R_aload_n (k := 0) rfl rfl rfl ?_
          refine R_iload_n (k := 1) rfl rfl rfl ?_
          refine R_callV (v := .inr (.inr (.inl 96))) (As := [.inl x3]) (rest := []) rfl mt_9_i402 pp_X9_keepsPair (by decide) rfl rfl rfl (Nat.le_of_ble_eq_true rfl) (Nat.le_of_ble_eq_true rfl) ((k_X9_keepsPair h hI x3 (by omega)).mono (fun r16 h17 p18 => ?_))
          obtain ⟨rfl, x19, rfl, q20 | q20⟩ := p18
          · show RUN d_X9_keepsAll 29 [(1, .inl x3), (0, .inr (.inr (.inl 96)))] [.inl x19] h _
            refine N_if_ne (a := x19.toInt) 34 rfl rfl rfl (fun c21 => ?_) (fun c21 => ?_)
            · refine N_iinc (a := x3.toInt) (c := 1) (fun w => [(1, .inl w), (0, .inr (.inr (.inl 96)))]) rfl rfl (fun _ => rfl) (by decide) rfl (by decide) (by omega) (fun x22 q23 => ?_)
              refine R_goto 2 rfl rfl ?_
              exact RUN_weak (psub_cons rfl (psub_cons rfl (psub_nil _))) (ih4 x22 (by omega) (by omega))
            · exfalso; omega
          · show RUN d_X9_keepsAll 29 [(1, .inl x3), (0, .inr (.inr (.inl 96)))] [.inl x19] h _
            refine N_if_ne (a := x19.toInt) 34 rfl rfl rfl (fun c24 => ?_) (fun c24 => ?_)
            · exfalso; omega
            · refine R_iconst 0 rfl rfl ?_
              exact R_iret rfl rfl rfl ⟨rfl, _, rfl, by rw [show (0 : Int32).toInt = 0 from rfl]; omega⟩
  exact lp2 _ (0 : Int32) (by decide) (Nat.lt_succ_self _)
abbrev q_X2_swap (h : PH) (a0 : Int32) (a1 : Int32) : Option PV → PH → Prop := fun r h' => INV h' ∧ FR [71, 72, 73] h h' ∧ r = none
set_option maxHeartbeats 4000000 in
set_option maxRecDepth 100000 in
theorem k_X2_swap (h : PH) (hI : INV h) (a0 : Int32) (a1 : Int32) (h0a : 0 ≤ a0.toInt ∧ a0.toInt ≤ 5) (h1a : 1 ≤ a1.toInt ∧ a1.toInt ≤ 5) : CALL d_X2_swap [.inr (.inr (.inl 70)), .inl a0, .inl a1] h (q_X2_swap h a0 a1) := by
  show RUN d_X2_swap 0 [(0, .inr (.inr (.inl 70))), (1, .inl a0), (2, .inl a1)] [] h _
  have fr : FR [71, 72, 73] h h := FR.rf _ _
  refine R_iload_n (k := 1) rfl rfl rfl ?_
  refine N_if_lt (a := a0.toInt) 24 rfl rfl rfl (fun c1 => ?_) (fun c1 => ?_)
  · exfalso; omega
  · refine R_iload_n (k := 1) rfl rfl rfl ?_
    refine R_aload_n (k := 0) rfl rfl rfl ?_
    refine R_getf_i (j := 4) rfl ft_2_25 sh_70 rfl ?_
    have b2 : (0 : Int) ≤ (h.1 70 4).toInt ∧ (h.1 70 4).toInt ≤ 6 := hI.1 70 4
    refine N_icmp_ge (a := a0.toInt) (b := (h.1 70 4).toInt) 24 rfl rfl rfl rfl (fun c3 => ?_) (fun c3 => ?_)
    · exact R_vret rfl rfl ⟨hI, fr, rfl⟩
    · refine R_iload_n (k := 2) rfl rfl rfl ?_
      refine N_if_lt (a := a1.toInt) 24 rfl rfl rfl (fun c4 => ?_) (fun c4 => ?_)
      · exfalso; omega
      · refine R_iload_n (k := 2) rfl rfl rfl ?_
        refine R_aload_n (k := 0) rfl rfl rfl ?_
        refine R_getf_i (j := 4) rfl ft_2_25 sh_70 rfl ?_
        refine N_icmp_lt (a := a1.toInt) (b := (h.1 70 4).toInt) 25 rfl rfl rfl rfl (fun c5 => ?_) (fun c5 => ?_)
        · refine R_aload_n (k := 0) rfl rfl rfl ?_
          refine R_getf_r (j := 0) rfl ft_2_9 sh_70 rfl ?_
          refine R_iload_n (k := 1) rfl rfl rfl ?_
          refine R_iald rfl sh_71 ⟨by omega, by omega⟩ ?_
          refine N_any (fun x6 => ?_)
          refine R_istore_n (k := 3) rfl [(3, .inl x6), (0, .inr (.inr (.inl 70))), (1, .inl a0), (2, .inl a1)] rfl rfl (by decide) ?_
          refine R_aload_n (k := 0) rfl rfl rfl ?_
          refine R_getf_r (j := 1) rfl ft_2_15 sh_70 rfl ?_
          refine R_iload_n (k := 1) rfl rfl rfl ?_
          refine R_iald rfl sh_72 ⟨by omega, by omega⟩ ?_
          refine N_any (fun x7 => ?_)
          refine R_istore (k := 4) [(4, .inl x7), (3, .inl x6), (0, .inr (.inr (.inl 70))), (1, .inl a0), (2, .inl a1)] rfl rfl (by decide) ?_
          refine R_aload_n (k := 0) rfl rfl rfl ?_
          refine R_getf_r (j := 2) rfl ft_2_18 sh_70 rfl ?_
          refine R_iload_n (k := 1) rfl rfl rfl ?_
          refine R_lald rfl sh_73 ⟨by omega, by omega⟩ ?_
          refine N_anyL (fun w8 => ?_)
          refine R_lstore (k := 5) [(5, .inr (.inl w8)), (4, .inl x7), (3, .inl x6), (0, .inr (.inr (.inl 70))), (1, .inl a0), (2, .inl a1)] rfl rfl (by decide) ?_
          refine R_aload_n (k := 0) rfl rfl rfl ?_
          refine R_getf_r (j := 0) rfl ft_2_9 sh_70 rfl ?_
          refine R_iload_n (k := 1) rfl rfl rfl ?_
          refine R_aload_n (k := 0) rfl rfl rfl ?_
          refine R_getf_r (j := 0) rfl ft_2_9 sh_70 rfl ?_
          refine R_iload_n (k := 2) rfl rfl rfl ?_
          refine R_iald rfl sh_71 ⟨by omega, by omega⟩ ?_
          refine N_any (fun x9 => ?_)
          refine K_iast (a := a0.toInt) (lo := (-2147483648)) (hi' := 2147483647) rfl sh_71 rfl ⟨by omega, by omega⟩ hI (by decide) rfl (i_rng _) fr (by decide) (fun h10 g11 hI fr => ?_)
          have s12 : (h10.1 70 4).toInt = (h.1 70 4).toInt := by rw [g11, wI_ne _ _ _ (by decide)]
          refine R_aload_n (k := 0) rfl rfl rfl ?_
          refine R_getf_r (j := 1) rfl ft_2_15 sh_70 rfl ?_
          refine R_iload_n (k := 1) rfl rfl rfl ?_
          refine R_aload_n (k := 0) rfl rfl rfl ?_
          refine R_getf_r (j := 1) rfl ft_2_15 sh_70 rfl ?_
          refine R_iload_n (k := 2) rfl rfl rfl ?_
          refine R_iald rfl sh_72 ⟨by omega, by omega⟩ ?_
          refine N_any (fun x13 => ?_)
          refine K_iast (a := a0.toInt) (lo := (-2147483648)) (hi' := 2147483647) rfl sh_72 rfl ⟨by omega, by omega⟩ hI (by decide) rfl (i_rng _) fr (by decide) (fun h14 g15 hI fr => ?_)
          have s16 : (h14.1 70 4).toInt = (h10.1 70 4).toInt := by rw [g15, wI_ne _ _ _ (by decide)]
          refine R_aload_n (k := 0) rfl rfl rfl ?_
          refine R_getf_r (j := 2) rfl ft_2_18 sh_70 rfl ?_
          refine R_iload_n (k := 1) rfl rfl rfl ?_
          refine R_aload_n (k := 0) rfl rfl rfl ?_
          refine R_getf_r (j := 2) rfl ft_2_18 sh_70 rfl ?_
          refine R_iload_n (k := 2) rfl rfl rfl ?_
          refine R_lald rfl sh_73 ⟨by omega, by omega⟩ ?_
          refine N_anyL (fun w17 => ?_)
          refine K_last (a := a0.toInt) rfl sh_73 rfl ⟨by omega, by omega⟩ hI fr (by decide) (fun h18 g19 hI fr => ?_)
          have s20 : (h18.1 70 4).toInt = (h14.1 70 4).toInt := by rw [g19, wL_fst]
          refine R_aload_n (k := 0) rfl rfl rfl ?_
          refine R_getf_r (j := 0) rfl ft_2_9 sh_70 rfl ?_
          refine R_iload_n (k := 2) rfl rfl rfl ?_
          refine R_iload_n (k := 3) rfl rfl rfl ?_
          refine K_iast (a := a1.toInt) (lo := (-2147483648)) (hi' := 2147483647) rfl sh_71 rfl ⟨by omega, by omega⟩ hI (by decide) rfl (i_rng _) fr (by decide) (fun h21 g22 hI fr => ?_)
          have s23 : (h21.1 70 4).toInt = (h18.1 70 4).toInt := by rw [g22, wI_ne _ _ _ (by decide)]
          refine R_aload_n (k := 0) rfl rfl rfl ?_
          refine R_getf_r (j := 1) rfl ft_2_15 sh_70 rfl ?_
          refine R_iload_n (k := 2) rfl rfl rfl ?_
          refine R_iload (k := 4) rfl rfl ?_
          refine K_iast (a := a1.toInt) (lo := (-2147483648)) (hi' := 2147483647) rfl sh_72 rfl ⟨by omega, by omega⟩ hI (by decide) rfl (i_rng _) fr (by decide) (fun h24 g25 hI fr => ?_)
          have s26 : (h24.1 70 4).toInt = (h21.1 70 4).toInt := by rw [g25, wI_ne _ _ _ (by decide)]
          refine R_aload_n (k := 0) rfl rfl rfl ?_
          refine R_getf_r (j := 2) rfl ft_2_18 sh_70 rfl ?_
          refine R_iload_n (k := 2) rfl rfl rfl ?_
          refine R_lload (k := 5) rfl rfl ?_
          refine K_last (a := a1.toInt) rfl sh_73 rfl ⟨by omega, by omega⟩ hI fr (by decide) (fun h27 g28 hI fr => ?_)
          have s29 : (h27.1 70 4).toInt = (h24.1 70 4).toInt := by rw [g28, wL_fst]
          exact R_vret rfl rfl ⟨hI, fr, rfl⟩
        · exact R_vret rfl rfl ⟨hI, fr, rfl⟩
abbrev q_X8_change (h : PH)  : Option PV → PH → Prop := fun r h' => INV h' ∧ FR [0, 70, 71, 72, 73, 74, 75, 76, 77, 78, 79, 80, 81, 82, 83, 84, 85, 86] h h' ∧ ∃ z : Int32, r = some (.inl z) ∧ (((-2) ≤ z.toInt ∧ z.toInt ≤ 59))
set_option maxHeartbeats 4000000 in
set_option maxRecDepth 100000 in
theorem k_X8_change (h : PH) (hI : INV h)  : CALL d_X8_change [.inr (.inr (.inl 0))] h (q_X8_change h) := by
  show RUN d_X8_change 0 [(0, .inr (.inr (.inl 0)))] [] h _
  have fr : FR [0, 70, 71, 72, 73, 74, 75, 76, 77, 78, 79, 80, 81, 82, 83, 84, 85, 86] h h := FR.rf _ _
  refine R_aload_n (k := 0) rfl rfl rfl ?_
  refine R_getf_r (j := 3) rfl ft_8_28 sh_0 rfl ?_
  refine R_callV (v := .inr (.inr (.inl 16))) (As := []) (rest := []) rfl mt_8_i146 pp_X1_stands (by decide) rfl rfl rfl (Nat.le_of_ble_eq_true rfl) (Nat.le_of_ble_eq_true rfl) ((k_X1_stands h hI).mono (fun r1 h2 p3 => ?_))
  obtain ⟨rfl, x4, rfl, q5 | q5⟩ := p3
  · have b6 : (0 : Int) ≤ (h.1 17 0).toInt ∧ (h.1 17 0).toInt ≤ 60 := hI.1 17 0
    have e7 : 0 < (h.1 17 10).toInt → 1 ≤ (h.1 17 0).toInt := hI.2.1
    show RUN d_X8_change 7 [(0, .inr (.inr (.inl 0)))] [.inl x4] h _
    refine N_if_ne (a := x4.toInt) 13 rfl rfl rfl (fun c8 => ?_) (fun c8 => ?_)
    · exfalso; omega
    · refine R_bipush (-2) rfl rfl ?_
      exact R_iret rfl rfl rfl ⟨hI, fr, _, rfl, by rw [show ((-2) : Int32).toInt = (-2) from rfl]; omega⟩
  · have b9 : (0 : Int) ≤ (h.1 17 0).toInt ∧ (h.1 17 0).toInt ≤ 60 := hI.1 17 0
    have e10 : 0 < (h.1 17 10).toInt → 1 ≤ (h.1 17 0).toInt := hI.2.1
    show RUN d_X8_change 7 [(0, .inr (.inr (.inl 0)))] [.inl x4] h _
    refine N_if_ne (a := x4.toInt) 13 rfl rfl rfl (fun c11 => ?_) (fun c11 => ?_)
    · refine R_aload_n (k := 0) rfl rfl rfl ?_
      refine R_callV (v := .inr (.inr (.inl 0))) (As := []) (rest := []) rfl mt_8_i249 pp_X8_waterNow (by decide) rfl rfl rfl (Nat.le_of_ble_eq_true rfl) (Nat.le_of_ble_eq_true rfl) ((k_X8_waterNow h hI).mono (fun r12 h13 p14 => ?_))
      obtain ⟨hJ, fj, x15, rfl, q16⟩ := p14
      have f17 := fj
      have fr := fr.trans fj (by decide)
      have hI := hJ
      have s18 : (h13.1 17 0).toInt = (h.1 17 0).toInt := by rw [(f17 17 (by decide)).1]
      have s19 : (h13.1 17 10).toInt = (h.1 17 10).toInt := by rw [(f17 17 (by decide)).1]
      show RUN d_X8_change 17 [(0, .inr (.inr (.inl 0)))] [.inl x15] h13 _
      refine R_istore_n (k := 1) rfl [(1, .inl x15), (0, .inr (.inr (.inl 0)))] rfl rfl (by decide) ?_
      refine R_iconst (-1) rfl rfl ?_
      refine R_istore_n (k := 2) rfl [(2, .inl (-1)), (1, .inl x15), (0, .inr (.inr (.inl 0)))] rfl rfl (by decide) ?_
      refine R_iconst 0 rfl rfl ?_
      refine R_istore_n (k := 3) rfl [(3, .inl 0), (2, .inl (-1)), (1, .inl x15), (0, .inr (.inr (.inl 0)))] rfl rfl (by decide) ?_
      have lp21 : ∀ (n20 : Nat) (h22 : PH) (x24 : Int32) (x25 : Int32) (x26 : Int32), INV h22 → FR [0, 70, 71, 72, 73, 74, 75, 76, 77, 78, 79, 80, 81, 82, 83, 84, 85, 86] h h22 → FR [70, 71, 72, 73, 74] h13 h22 → (-1) ≤ x25.toInt ∧ x25.toInt ≤ 59 → 0 ≤ x26.toInt ∧ x26.toInt ≤ 2147483647 → (2147483647 - x26.toInt).toNat < n20 → RUN d_X8_change 22 [(3, .inl x26), (2, .inl x25), (1, .inl x24), (0, .inr (.inr (.inl 0)))] [] h22 (q_X8_change h) := by
        intro n20
        induction n20 with
        | zero => intro h22 x24 x25 x26 m28 m29 m30 m31 m32 hz; exact absurd hz (Nat.not_lt_zero _)
        | succ n20 ih27 =>
          intro h22 x24 x25 x26 hI fr fl23 m31 m32 hz
          have s33 : (h22.1 17 0).toInt = (h13.1 17 0).toInt := by rw [(fl23 17 (by decide)).1]
          have s34 : (h22.1 17 10).toInt = (h13.1 17 10).toInt := by rw [(fl23 17 (by decide)).1]
          refine R_iload_n (k := 3) rfl rfl rfl ?_
          refine R_aload_n (k := 0) rfl rfl rfl ?_
          refine R_getf_r (j := 3) rfl ft_8_28 sh_0 rfl ?_
          refine R_getf_r (j := 0) rfl ft_8_109 sh_16 rfl ?_
          refine R_iconst 5 rfl rfl ?_
          refine R_iald rfl sh_17 (by decide) ?_
          have b35 : (0 : Int) ≤ (h22.1 17 5).toInt ∧ (h22.1 17 5).toInt ≤ 6 := hI.1 17 5
          show RUN d_X8_change 32 [(3, .inl x26), (2, .inl x25), (1, .inl x24), (0, .inr (.inr (.inl 0)))] [.inl (h22.1 17 5), .inl x26] h22 _
          refine N_icmp_ge (a := x26.toInt) (b := (h22.1 17 5).toInt) 103 rfl rfl rfl rfl (fun c36 => ?_) (fun c36 => ?_)
          · refine R_iload_n (k := 2) rfl rfl rfl ?_
            exact R_iret rfl rfl rfl ⟨hI, fr, _, rfl, by omega⟩
          · refine R_iload_n (k := 3) rfl rfl rfl ?_
            refine R_iconst 1 rfl rfl ?_
            refine N_iadd (a := x26.toInt) (b := 1) rfl rfl (by decide) (by omega) (fun x37 q38 => ?_)
            refine R_istore (k := 4) [(4, .inl x37), (3, .inl x26), (2, .inl x25), (1, .inl x24), (0, .inr (.inr (.inl 0)))] rfl rfl (by decide) ?_
            have lp40 : ∀ (n39 : Nat) (h41 : PH) (x43 : Int32) (x44 : Int32) (x45 : Int32), INV h41 → FR [0, 70, 71, 72, 73, 74, 75, 76, 77, 78, 79, 80, 81, 82, 83, 84, 85, 86] h h41 → FR [70, 71, 72, 73, 74] h22 h41 → (-1) ≤ x44.toInt ∧ x44.toInt ≤ 59 → 1 ≤ x45.toInt ∧ x45.toInt ≤ 6 → (6 - x45.toInt).toNat < n39 → RUN d_X8_change 40 [(4, .inl x45), (3, .inl x26), (2, .inl x44), (1, .inl x43), (0, .inr (.inr (.inl 0)))] [] h41 (q_X8_change h) := by
              intro n39
              induction n39 with
              | zero => intro h41 x43 x44 x45 m47 m48 m49 m50 m51 hz; exact absurd hz (Nat.not_lt_zero _)
              | succ n39 ih46 =>
                intro h41 x43 x44 x45 hI fr fl42 m50 m51 hz
                have s52 : (h41.1 17 0).toInt = (h22.1 17 0).toInt := by rw [(fl42 17 (by decide)).1]
                have s53 : (h41.1 17 10).toInt = (h22.1 17 10).toInt := by rw [(fl42 17 (by decide)).1]
                have s54 : (h41.1 17 5).toInt = (h22.1 17 5).toInt := by rw [(fl42 17 (by decide)).1]
                have fl23 : FR [70, 71, 72, 73, 74] h13 h41 := fl23.trans fl42 (by decide)
                refine R_iload (k := 4) rfl rfl ?_
                refine R_aload_n (k := 0) rfl rfl rfl ?_
                refine R_getf_r (j := 3) rfl ft_8_28 sh_0 rfl ?_
                refine R_getf_r (j := 0) rfl ft_8_109 sh_16 rfl ?_
                refine R_iconst 5 rfl rfl ?_
                refine R_iald rfl sh_17 (by decide) ?_
                show RUN d_X8_change 51 [(4, .inl x45), (3, .inl x26), (2, .inl x44), (1, .inl x43), (0, .inr (.inr (.inl 0)))] [.inl (h41.1 17 5), .inl x45] h41 _
                refine N_icmp_ge (a := x45.toInt) (b := (h41.1 17 5).toInt) 97 rfl rfl rfl rfl (fun c55 => ?_) (fun c55 => ?_)
                · refine N_iinc (a := x26.toInt) (c := 1) (fun w => [(3, .inl w), (4, .inl x45), (2, .inl x44), (1, .inl x43), (0, .inr (.inr (.inl 0)))]) rfl rfl (fun _ => rfl) (by decide) rfl (by decide) (by omega) (fun x56 q57 => ?_)
                  refine R_goto 22 rfl rfl ?_
                  exact RUN_weak (psub_cons rfl (psub_cons rfl (psub_cons rfl (psub_cons rfl (psub_nil _))))) (ih27 h41 x43 x44 x56 hI fr fl23 (by omega) (by omega) (by omega))
                · refine R_aload_n (k := 0) rfl rfl rfl ?_
                  refine R_callV (v := .inr (.inr (.inl 0))) (As := []) (rest := []) rfl mt_8_i237 pp_X8_lineAsNow (by decide) rfl rfl rfl (Nat.le_of_ble_eq_true rfl) (Nat.le_of_ble_eq_true rfl) ((k_X8_lineAsNow h41 hI).mono (fun r58 h59 p60 => ?_))
                  obtain ⟨hJ, fj, rfl⟩ := p60
                  have f61 := fj
                  have fr := fr.trans fj (by decide)
                  have hI := hJ
                  have fl42 : FR [70, 71, 72, 73, 74] h22 h59 := fl42.trans fj (by decide)
                  have fl23 : FR [70, 71, 72, 73, 74] h13 h59 := fl23.trans fj (by decide)
                  have s62 : (h59.1 17 0).toInt = (h41.1 17 0).toInt := by rw [(f61 17 (by decide)).1]
                  have s63 : (h59.1 17 10).toInt = (h41.1 17 10).toInt := by rw [(f61 17 (by decide)).1]
                  have s64 : (h59.1 17 5).toInt = (h41.1 17 5).toInt := by rw [(f61 17 (by decide)).1]
                  show RUN d_X8_change 58 [(4, .inl x45), (3, .inl x26), (2, .inl x44), (1, .inl x43), (0, .inr (.inr (.inl 0)))] [] h59 _
                  refine R_aload_n (k := 0) rfl rfl rfl ?_
                  refine R_getf_r (j := 7) rfl ft_8_49 sh_0 rfl ?_
                  refine R_iload_n (k := 3) rfl rfl rfl ?_
                  refine R_iload (k := 4) rfl rfl ?_
                  refine R_callV (v := .inr (.inr (.inl 70))) (As := [.inl x26, .inl x45]) (rest := []) rfl mt_8_i264 pp_X2_swap (by decide) rfl rfl rfl (Nat.le_of_ble_eq_true rfl) (Nat.le_of_ble_eq_true rfl) ((k_X2_swap h59 hI x26 x45 (by omega) (by omega)).mono (fun r65 h66 p67 => ?_))
                  obtain ⟨hJ, fj, rfl⟩ := p67
                  have f68 := fj
                  have fr := fr.trans fj (by decide)
                  have hI := hJ
                  have fl42 : FR [70, 71, 72, 73, 74] h22 h66 := fl42.trans fj (by decide)
                  have fl23 : FR [70, 71, 72, 73, 74] h13 h66 := fl23.trans fj (by decide)
                  have s69 : (h66.1 17 0).toInt = (h59.1 17 0).toInt := by rw [(f68 17 (by decide)).1]
                  have s70 : (h66.1 17 10).toInt = (h59.1 17 10).toInt := by rw [(f68 17 (by decide)).1]
                  have s71 : (h66.1 17 5).toInt = (h59.1 17 5).toInt := by rw [(f68 17 (by decide)).1]
                  show RUN d_X8_change 68 [(4, .inl x45), (3, .inl x26), (2, .inl x44), (1, .inl x43), (0, .inr (.inr (.inl 0)))] [] h66 _
                  refine R_aload_n (k := 0) rfl rfl rfl ?_
                  refine R_callV (v := .inr (.inr (.inl 0))) (As := []) (rest := []) rfl mt_8_i268 pp_X8_waterOfLine (by decide) rfl rfl rfl (Nat.le_of_ble_eq_true rfl) (Nat.le_of_ble_eq_true rfl) ((k_X8_waterOfLine h66 hI).mono (fun r72 h73 p74 => ?_))
                  obtain ⟨hJ, fj, x75, rfl, q76⟩ := p74
                  have f77 := fj
                  have fr := fr.trans fj (by decide)
                  have hI := hJ
                  have fl42 : FR [70, 71, 72, 73, 74] h22 h73 := fl42.trans fj (by decide)
                  have fl23 : FR [70, 71, 72, 73, 74] h13 h73 := fl23.trans fj (by decide)
                  have s78 : (h73.1 17 0).toInt = (h66.1 17 0).toInt := by rw [(f77 17 (by decide)).1]
                  have s79 : (h73.1 17 10).toInt = (h66.1 17 10).toInt := by rw [(f77 17 (by decide)).1]
                  have s80 : (h73.1 17 5).toInt = (h66.1 17 5).toInt := by rw [(f77 17 (by decide)).1]
                  show RUN d_X8_change 72 [(4, .inl x45), (3, .inl x26), (2, .inl x44), (1, .inl x43), (0, .inr (.inr (.inl 0)))] [.inl x75] h73 _
                  refine R_istore (k := 5) [(5, .inl x75), (4, .inl x45), (3, .inl x26), (2, .inl x44), (1, .inl x43), (0, .inr (.inr (.inl 0)))] rfl rfl (by decide) ?_
                  refine R_iload (k := 5) rfl rfl ?_
                  refine R_iload_n (k := 1) rfl rfl rfl ?_
                  refine N_icmp_le (a := x75.toInt) (b := x43.toInt) 91 rfl rfl rfl rfl (fun c81 => ?_) (fun c81 => ?_)
                  · refine N_iinc (a := x45.toInt) (c := 1) (fun w => [(4, .inl w), (5, .inl x75), (3, .inl x26), (2, .inl x44), (1, .inl x43), (0, .inr (.inr (.inl 0)))]) rfl rfl (fun _ => rfl) (by decide) rfl (by decide) (by omega) (fun x82 q83 => ?_)
                    refine R_goto 40 rfl rfl ?_
                    exact RUN_weak (psub_cons rfl (psub_cons rfl (psub_cons rfl (psub_cons rfl (psub_cons rfl (psub_nil _)))))) (ih46 h73 x43 x44 x82 hI fr fl42 (by omega) (by omega) (by omega))
                  · refine R_iload (k := 5) rfl rfl ?_
                    refine R_istore_n (k := 1) rfl [(1, .inl x75), (5, .inl x75), (4, .inl x45), (3, .inl x26), (2, .inl x44), (0, .inr (.inr (.inl 0)))] rfl rfl (by decide) ?_
                    refine R_bipush 10 rfl rfl ?_
                    refine R_iload_n (k := 3) rfl rfl rfl ?_
                    refine N_imul (a := 10) (b := x26.toInt) rfl (by decide) rfl (by omega) (fun x84 q85 => ?_)
                    refine R_iload (k := 4) rfl rfl ?_
                    refine N_iadd (a := x84.toInt) (b := x45.toInt) rfl rfl rfl (by omega) (fun x86 q87 => ?_)
                    refine R_istore_n (k := 2) rfl [(2, .inl x86), (1, .inl x75), (5, .inl x75), (4, .inl x45), (3, .inl x26), (0, .inr (.inr (.inl 0)))] rfl rfl (by decide) ?_
                    refine N_iinc (a := x45.toInt) (c := 1) (fun w => [(4, .inl w), (2, .inl x86), (1, .inl x75), (5, .inl x75), (3, .inl x26), (0, .inr (.inr (.inl 0)))]) rfl rfl (fun _ => rfl) (by decide) rfl (by decide) (by omega) (fun x88 q89 => ?_)
                    refine R_goto 40 rfl rfl ?_
                    exact RUN_weak (psub_cons rfl (psub_cons rfl (psub_cons rfl (psub_cons rfl (psub_cons rfl (psub_nil _)))))) (ih46 h73 x75 x86 x88 hI fr fl42 (by omega) (by omega) (by omega))
            exact lp40 _ h22 x24 x25 x37 hI fr (FR.rf _ _) (by omega) (by omega) (Nat.lt_succ_self _)
      exact lp21 _ h13 x15 ((-1) : Int32) (0 : Int32) hI fr (FR.rf _ _) (by decide) (by decide) (Nat.lt_succ_self _)
    · exfalso; omega
abbrev q_X5_isSlot (h : PH) (a0 : Int32) : Option PV → PH → Prop := fun r h' => h = h' ∧ ∃ z : Int32, r = some (.inl z) ∧ ((z.toInt = 0 ∧ a0.toInt ≤ (-1)) ∨ (z.toInt = 0 ∧ 4 ≤ a0.toInt) ∨ (z.toInt = 1 ∧ 0 ≤ a0.toInt ∧ a0.toInt ≤ 3))
set_option maxHeartbeats 4000000 in
set_option maxRecDepth 100000 in
theorem k_X5_isSlot (h : PH) (hI : INV h) (a0 : Int32) : CALL d_X5_isSlot [.inr (.inr (.inl 66)), .inl a0] h (q_X5_isSlot h a0) := by
  show RUN d_X5_isSlot 0 [(0, .inr (.inr (.inl 66))), (1, .inl a0)] [] h _
  have b1 := i_rng a0
  refine R_iload_n (k := 1) rfl rfl rfl ?_
  refine N_if_lt (a := a0.toInt) 13 rfl rfl rfl (fun c2 => ?_) (fun c2 => ?_)
  · refine R_iconst 0 rfl rfl ?_
    exact R_iret rfl rfl rfl ⟨rfl, _, rfl, by rw [show (0 : Int32).toInt = 0 from rfl]; omega⟩
  · refine R_iload_n (k := 1) rfl rfl rfl ?_
    refine R_iconst 4 rfl rfl ?_
    refine N_icmp_ge (a := a0.toInt) (b := 4) 13 rfl rfl rfl (by decide) (fun c3 => ?_) (fun c3 => ?_)
    · refine R_iconst 0 rfl rfl ?_
      exact R_iret rfl rfl rfl ⟨rfl, _, rfl, by rw [show (0 : Int32).toInt = 0 from rfl]; omega⟩
    · refine R_iconst 1 rfl rfl ?_
      refine R_goto 14 rfl rfl ?_
      exact R_iret rfl rfl rfl ⟨rfl, _, rfl, by rw [show (1 : Int32).toInt = 1 from rfl]; omega⟩
abbrev q_X5_hasRow (h : PH) (a0 : Int32) : Option PV → PH → Prop := fun r h' => h = h' ∧ ∃ z : Int32, r = some (.inl z) ∧ ((z.toInt = 0) ∨ (z.toInt = 1))
set_option maxHeartbeats 4000000 in
set_option maxRecDepth 100000 in
theorem k_X5_hasRow (h : PH) (hI : INV h) (a0 : Int32) (h0a : 0 ≤ a0.toInt ∧ a0.toInt ≤ 3) : CALL d_X5_hasRow [.inr (.inr (.inl 66)), .inl a0] h (q_X5_hasRow h a0) := by
  show RUN d_X5_hasRow 0 [(0, .inr (.inr (.inl 66))), (1, .inl a0)] [] h _
  refine R_aload_n (k := 0) rfl rfl rfl ?_
  refine R_getf_r (j := 1) rfl ft_5_15 sh_66 rfl ?_
  refine R_iload_n (k := 1) rfl rfl rfl ?_
  refine R_iald rfl sh_68 ⟨by omega, by omega⟩ ?_
  refine N_bd (lo := (-1)) (hi := 60) (hI.1 68 _) (fun x1 q2 => ?_)
  refine R_iconst (-1) rfl rfl ?_
  refine N_icmp_eq (a := x1.toInt) (b := (-1)) 14 rfl rfl rfl (by decide) (fun c3 => ?_) (fun c3 => ?_)
  · refine R_iconst 0 rfl rfl ?_
    exact R_iret rfl rfl rfl ⟨rfl, _, rfl, by rw [show (0 : Int32).toInt = 0 from rfl]; omega⟩
  · refine R_iconst 1 rfl rfl ?_
    refine R_goto 15 rfl rfl ?_
    exact R_iret rfl rfl rfl ⟨rfl, _, rfl, by rw [show (1 : Int32).toInt = 1 from rfl]; omega⟩
abbrev q_X3_thrownTo (h : PH) (a0 : Int64) (a1 : Int64) : Option PV → PH → Prop := fun r h' => h = h' ∧ ∃ z : Int32, r = some (.inl z) ∧ ((0 ≤ z.toInt ∧ z.toInt ≤ 127))
set_option maxHeartbeats 4000000 in
set_option maxRecDepth 100000 in
theorem k_X3_thrownTo (h : PH) (hI : INV h) (a0 : Int64) (a1 : Int64) : CALL d_X3_thrownTo [.inr (.inl a0), .inr (.inl a1)] h (q_X3_thrownTo h a0 a1) := by
  show RUN d_X3_thrownTo 0 [(0, .inr (.inl a0)), (2, .inr (.inl a1))] [] h _
  refine R_lload_n (k := 0) rfl rfl rfl ?_
  refine R_ldc2 (x := 2) rfl kt_3_104 ?_
  refine R_lload_n (k := 2) rfl rfl rfl ?_
  refine R_l2i rfl ?_
  refine N_any (fun x1 => ?_)
  refine R_lshl rfl ?_
  refine N_anyL (fun w2 => ?_)
  refine R_lconst 1 rfl rfl ?_
  refine R_lsub rfl ?_
  refine N_anyL (fun w3 => ?_)
  refine R_land rfl ?_
  refine N_anyL (fun w4 => ?_)
  refine R_callS (As := [.inr (.inl w4)]) (rest := []) rfl mt_3_i78 (by decide) pp_J13_bitCount_95d88 (by decide) rfl rfl (Nat.le_of_ble_eq_true rfl) (Nat.le_of_ble_eq_true rfl) ((k_J13_bitCount_95d88 h hI w4).mono (fun r5 h6 p7 => ?_))
  obtain ⟨rfl, x8, rfl, q9⟩ := p7
  show RUN d_X3_thrownTo 13 [(0, .inr (.inl a0)), (2, .inr (.inl a1))] [.inl x8] h _
  exact R_iret rfl rfl rfl ⟨rfl, _, rfl, by omega⟩
abbrev q_X9_isSlot (h : PH) (a0 : Int32) : Option PV → PH → Prop := fun r h' => h = h' ∧ ∃ z : Int32, r = some (.inl z) ∧ ((z.toInt = 0 ∧ a0.toInt ≤ (-1)) ∨ (z.toInt = 0 ∧ 4 ≤ a0.toInt) ∨ (z.toInt = 1 ∧ 0 ≤ a0.toInt ∧ a0.toInt ≤ 3))
set_option maxHeartbeats 4000000 in
set_option maxRecDepth 100000 in
theorem k_X9_isSlot (h : PH) (hI : INV h) (a0 : Int32) : CALL d_X9_isSlot [.inl a0] h (q_X9_isSlot h a0) := by
  show RUN d_X9_isSlot 0 [(0, .inl a0)] [] h _
  have b1 := i_rng a0
  refine R_iload_n (k := 0) rfl rfl rfl ?_
  refine N_i2l rfl (fun w2 q3 => ?_)
  refine R_lconst 0 rfl rfl ?_
  refine R_ldc2 (x := 3) rfl kt_9_529 ?_
  have k4 : (0 : Int64).toInt = 0 := by decide
  have k5 : (3 : Int64).toInt = 3 := by decide
  refine R_callS (As := [.inr (.inl w2), .inr (.inl 0), .inr (.inl 3)]) (rest := []) rfl mt_9_i125 (by decide) pp_X9_in (by decide) rfl rfl (Nat.le_of_ble_eq_true rfl) (Nat.le_of_ble_eq_true rfl) ((k_X9_in h hI w2 (0 : Int64) (3 : Int64)).mono (fun r6 h7 p8 => ?_))
  obtain ⟨rfl, x9, rfl, q10 | q10 | q10⟩ := p8
  · show RUN d_X9_isSlot 9 [(0, .inl a0)] [.inl x9] h _
    exact R_iret rfl rfl (nar_z (by omega)) ⟨rfl, _, rfl, by omega⟩
  · show RUN d_X9_isSlot 9 [(0, .inl a0)] [.inl x9] h _
    exact R_iret rfl rfl (nar_z (by omega)) ⟨rfl, _, rfl, by omega⟩
  · show RUN d_X9_isSlot 9 [(0, .inl a0)] [.inl x9] h _
    exact R_iret rfl rfl (nar_z (by omega)) ⟨rfl, _, rfl, by omega⟩
abbrev q_X9_askOf (h : PH)  : Option PV → PH → Prop := fun r h' => INV h' ∧ FR [96] h h' ∧ ∃ z : Int32, r = some (.inl z) ∧ (((-1) ≤ z.toInt ∧ z.toInt ≤ 2147483647))
set_option maxHeartbeats 4000000 in
set_option maxRecDepth 100000 in
theorem k_X9_askOf (h : PH) (hI : INV h)  : CALL d_X9_askOf [.inr (.inr (.inl 96))] h (q_X9_askOf h) := by
  show RUN d_X9_askOf 0 [(0, .inr (.inr (.inl 96)))] [] h _
  have fr : FR [96] h h := FR.rf _ _
  refine R_aload_n (k := 0) rfl rfl rfl ?_
  refine R_aload_n (k := 0) rfl rfl rfl ?_
  refine R_getf_i (j := 51) rfl ft_9_445 sh_96 rfl ?_
  have b1 : (0 : Int) ≤ (h.1 96 51).toInt ∧ (h.1 96 51).toInt ≤ 720 := hI.1 96 51
  refine K_putf (j := 52) (lo := (-2147483648)) (hi' := 2147483647) rfl ft_9_454 sh_96 rfl hI (by decide) rfl (i_rng _) fr (by decide) (fun h2 g3 hI fr => ?_)
  have s4 : (h2.1 96 51).toInt = (h.1 96 51).toInt := by rw [g3, wI_at (by decide)]
  have s5 : (h2.1 96 52).toInt = (h.1 96 51).toInt := by rw [g3, wI_is]
  refine R_iconst (-1) rfl rfl ?_
  refine R_istore_n (k := 1) rfl [(1, .inl (-1)), (0, .inr (.inr (.inl 96)))] rfl rfl (by decide) ?_
  refine R_iconst 0 rfl rfl ?_
  refine R_istore_n (k := 2) rfl [(2, .inl 0), (1, .inl (-1)), (0, .inr (.inr (.inl 96)))] rfl rfl (by decide) ?_
  have lp7 : ∀ (n6 : Nat) (h8 : PH) (x10 : Int32) (x11 : Int32), INV h8 → FR [96] h h8 → FR [96] h2 h8 → (-1) ≤ x10.toInt ∧ x10.toInt ≤ 2147483647 → 0 ≤ x11.toInt ∧ x11.toInt ≤ 2147483647 → (2147483647 - x11.toInt).toNat < n6 → RUN d_X9_askOf 12 [(2, .inl x11), (1, .inl x10), (0, .inr (.inr (.inl 96)))] [] h8 (q_X9_askOf h) := by
    intro n6
    induction n6 with
    | zero => intro h8 x10 x11 m13 m14 m15 m16 m17 hz; exact absurd hz (Nat.not_lt_zero _)
    | succ n6 ih12 =>
      intro h8 x10 x11 hI fr fl9 m16 m17 hz
      refine R_iload_n (k := 2) rfl rfl rfl ?_
      refine R_aload_n (k := 0) rfl rfl rfl ?_
      refine R_callV (v := .inr (.inr (.inl 96))) (As := []) (rest := [.inl x11]) rfl mt_9_i129 pp_X9_last (by decide) rfl rfl rfl (Nat.le_of_ble_eq_true rfl) (Nat.le_of_ble_eq_true rfl) ((k_X9_last h8 hI).mono (fun r18 h19 p20 => ?_))
      obtain ⟨rfl, x21, rfl, q22⟩ := p20
      show RUN d_X9_askOf 17 [(2, .inl x11), (1, .inl x10), (0, .inr (.inr (.inl 96)))] [.inl x21, .inl x11] h8 _
      refine N_icmp_gt (a := x11.toInt) (b := x21.toInt) 117 rfl rfl rfl rfl (fun c23 => ?_) (fun c23 => ?_)
      · refine R_iload_n (k := 1) rfl rfl rfl ?_
        have b24 := i_rng x10
        exact R_iret rfl rfl rfl ⟨hI, fr, _, rfl, by omega⟩
      · refine R_iconst 0 rfl rfl ?_
        refine R_istore_n (k := 3) rfl [(3, .inl 0), (2, .inl x11), (1, .inl x10), (0, .inr (.inr (.inl 96)))] rfl rfl (by decide) ?_
        refine R_iconst 0 rfl rfl ?_
        refine R_istore (k := 4) [(4, .inl 0), (3, .inl 0), (2, .inl x11), (1, .inl x10), (0, .inr (.inr (.inl 96)))] rfl rfl (by decide) ?_
        have lp26 : ∀ (n25 : Nat) (h27 : PH) (x29 : Int32) (x30 : Int32), INV h27 → FR [96] h h27 → FR [96] h8 h27 → 0 ≤ x29.toInt ∧ x29.toInt ≤ 2147483647 → 0 ≤ x30.toInt ∧ x30.toInt ≤ 2147483647 → (2147483647 - x30.toInt).toNat < n25 → RUN d_X9_askOf 25 [(4, .inl x30), (3, .inl x29), (2, .inl x11), (1, .inl x10), (0, .inr (.inr (.inl 96)))] [] h27 (q_X9_askOf h) := by
          intro n25
          induction n25 with
          | zero => intro h27 x29 x30 m32 m33 m34 m35 m36 hz; exact absurd hz (Nat.not_lt_zero _)
          | succ n25 ih31 =>
            intro h27 x29 x30 hI fr fl28 m35 m36 hz
            have fl9 : FR [96] h2 h27 := fl9.trans fl28 (by decide)
            refine R_iload (k := 4) rfl rfl ?_
            refine R_bipush 60 rfl rfl ?_
            refine N_icmp_gt (a := x30.toInt) (b := 60) 93 rfl rfl rfl (by decide) (fun c37 => ?_) (fun c37 => ?_)
            · refine R_iload_n (k := 3) rfl rfl rfl ?_
              refine R_aload_n (k := 0) rfl rfl rfl ?_
              refine R_getf_i (j := 52) rfl ft_9_454 sh_96 rfl ?_
              refine N_icmp_lt (a := x29.toInt) (b := (h27.1 96 52).toInt) 104 rfl rfl rfl rfl (fun c38 => ?_) (fun c38 => ?_)
              · refine R_aload_n (k := 0) rfl rfl rfl ?_
                refine R_iload_n (k := 3) rfl rfl rfl ?_
                refine K_putf (j := 52) (lo := (-2147483648)) (hi' := 2147483647) rfl ft_9_454 sh_96 rfl hI (by decide) rfl (i_rng _) fr (by decide) (fun h39 g40 hI fr => ?_)
                have fl28 : FR [96] h8 h39 := by rw [g40]; exact FR_wI _ _ fl28 (by decide)
                have fl9 : FR [96] h2 h39 := by rw [g40]; exact FR_wI _ _ fl9 (by decide)
                have s41 : (h39.1 96 52).toInt = x29.toInt := by rw [g40, wI_is]
                refine R_iload_n (k := 2) rfl rfl rfl ?_
                refine R_istore_n (k := 1) rfl [(1, .inl x11), (4, .inl x30), (3, .inl x29), (2, .inl x11), (0, .inr (.inr (.inl 96)))] rfl rfl (by decide) ?_
                refine N_iinc (a := x11.toInt) (c := 1) (fun w => [(2, .inl w), (1, .inl x11), (4, .inl x30), (3, .inl x29), (0, .inr (.inr (.inl 96)))]) rfl rfl (fun _ => rfl) (by decide) rfl (by decide) (by omega) (fun x42 q43 => ?_)
                refine R_goto 12 rfl rfl ?_
                exact RUN_weak (psub_cons rfl (psub_cons rfl (psub_cons rfl (psub_nil _)))) (ih12 h39 x11 x42 hI fr fl9 (by omega) (by omega) (by omega))
              · refine R_goto 111 rfl rfl ?_
                refine N_iinc (a := x11.toInt) (c := 1) (fun w => [(2, .inl w), (4, .inl x30), (3, .inl x29), (1, .inl x10), (0, .inr (.inr (.inl 96)))]) rfl rfl (fun _ => rfl) (by decide) rfl (by decide) (by omega) (fun x44 q45 => ?_)
                refine R_goto 12 rfl rfl ?_
                have b46 := i_rng x10
                exact RUN_weak (psub_cons rfl (psub_cons rfl (psub_cons rfl (psub_nil _)))) (ih12 h27 x10 x44 hI fr fl9 (by omega) (by omega) (by omega))
            · refine R_iconst 0 rfl rfl ?_
              refine R_istore (k := 5) [(5, .inl 0), (4, .inl x30), (3, .inl x29), (2, .inl x11), (1, .inl x10), (0, .inr (.inr (.inl 96)))] rfl rfl (by decide) ?_
              refine R_iconst 0 rfl rfl ?_
              refine R_istore (k := 6) [(6, .inl 0), (5, .inl 0), (4, .inl x30), (3, .inl x29), (2, .inl x11), (1, .inl x10), (0, .inr (.inr (.inl 96)))] rfl rfl (by decide) ?_
              have lp48 : ∀ (n47 : Nat) (x49 : Int32) (x50 : Int32), 0 ≤ x50.toInt ∧ x50.toInt ≤ 2147483647 → (2147483647 - x50.toInt).toNat < n47 → RUN d_X9_askOf 38 [(6, .inl x50), (5, .inl x49), (4, .inl x30), (3, .inl x29), (2, .inl x11), (1, .inl x10), (0, .inr (.inr (.inl 96)))] [] h27 (q_X9_askOf h) := by
                intro n47
                induction n47 with
                | zero => intro x49 x50 m52 hz; exact absurd hz (Nat.not_lt_zero _)
                | succ n47 ih51 =>
                  intro x49 x50 m52 hz
                  refine R_iload (k := 6) rfl rfl ?_
                  refine R_aload_n (k := 0) rfl rfl rfl ?_
                  refine R_getf_i (j := 51) rfl ft_9_445 sh_96 rfl ?_
                  have b53 : (0 : Int) ≤ (h27.1 96 51).toInt ∧ (h27.1 96 51).toInt ≤ 720 := hI.1 96 51
                  refine N_icmp_ge (a := x50.toInt) (b := (h27.1 96 51).toInt) 80 rfl rfl rfl rfl (fun c54 => ?_) (fun c54 => ?_)
                  · refine R_iload_n (k := 3) rfl rfl rfl ?_
                    refine R_iload (k := 5) rfl rfl ?_
                    refine N_max (a := x29.toInt) (b := x49.toInt) rfl mt_9_i339 rfl rfl ⟨by decide, by decide, Nat.le_of_ble_eq_true rfl⟩ (fun x55 q56 => ?_)
                    refine R_istore_n (k := 3) rfl [(3, .inl x55), (6, .inl x50), (5, .inl x49), (4, .inl x30), (2, .inl x11), (1, .inl x10), (0, .inr (.inr (.inl 96)))] rfl rfl (by decide) ?_
                    refine N_iinc (a := x30.toInt) (c := 1) (fun w => [(4, .inl w), (3, .inl x55), (6, .inl x50), (5, .inl x49), (2, .inl x11), (1, .inl x10), (0, .inr (.inr (.inl 96)))]) rfl rfl (fun _ => rfl) (by decide) rfl (by decide) (by omega) (fun x57 q58 => ?_)
                    refine R_goto 25 rfl rfl ?_
                    have b59 := i_rng x55
                    exact RUN_weak (psub_cons rfl (psub_cons rfl (psub_cons rfl (psub_cons rfl (psub_cons rfl (psub_nil _)))))) (ih31 h27 x55 x57 hI fr fl28 (by omega) (by omega) (by omega))
                  · refine R_iload (k := 5) rfl rfl ?_
                    refine R_aload_n (k := 0) rfl rfl rfl ?_
                    refine R_getf_r (j := 50) rfl ft_9_101 sh_96 rfl ?_
                    refine R_bipush 60 rfl rfl ?_
                    refine R_iload (k := 6) rfl rfl ?_
                    refine N_imul (a := 60) (b := x50.toInt) rfl (by decide) rfl (by omega) (fun x60 q61 => ?_)
                    refine R_iload_n (k := 2) rfl rfl rfl ?_
                    refine N_iadd (a := x60.toInt) (b := x11.toInt) rfl rfl rfl (by omega) (fun x62 q63 => ?_)
                    refine R_bald rfl sh_125 ⟨by omega, by omega⟩ ?_
                    refine N_any (fun x64 => ?_)
                    refine R_iload (k := 4) rfl rfl ?_
                    refine N_icmp_ne (a := x64.toInt) (b := x30.toInt) 70 rfl rfl rfl rfl (fun c65 => ?_) (fun c65 => ?_)
                    · refine R_iconst 0 rfl rfl ?_
                      have b66 := i_rng x49
                      refine N_iadd (a := x49.toInt) (b := 0) rfl rfl (by decide) (by omega) (fun x67 q68 => ?_)
                      refine R_istore (k := 5) [(5, .inl x67), (6, .inl x50), (4, .inl x30), (3, .inl x29), (2, .inl x11), (1, .inl x10), (0, .inr (.inr (.inl 96)))] rfl rfl (by decide) ?_
                      refine N_iinc (a := x50.toInt) (c := 1) (fun w => [(6, .inl w), (5, .inl x67), (4, .inl x30), (3, .inl x29), (2, .inl x11), (1, .inl x10), (0, .inr (.inr (.inl 96)))]) rfl rfl (fun _ => rfl) (by decide) rfl (by decide) (by omega) (fun x69 q70 => ?_)
                      refine R_goto 38 rfl rfl ?_
                      exact RUN_weak (psub_cons rfl (psub_cons rfl (psub_cons rfl (psub_cons rfl (psub_cons rfl (psub_cons rfl (psub_cons rfl (psub_nil _)))))))) (ih51 x67 x69 (by omega) (by omega))
                    · refine R_iconst 1 rfl rfl ?_
                      refine R_goto 71 rfl rfl ?_
                      have b71 := i_rng x49
                      refine R_iadd rfl ?_
                      refine N_any (fun x72 => ?_)
                      refine R_istore (k := 5) [(5, .inl x72), (6, .inl x50), (4, .inl x30), (3, .inl x29), (2, .inl x11), (1, .inl x10), (0, .inr (.inr (.inl 96)))] rfl rfl (by decide) ?_
                      refine N_iinc (a := x50.toInt) (c := 1) (fun w => [(6, .inl w), (5, .inl x72), (4, .inl x30), (3, .inl x29), (2, .inl x11), (1, .inl x10), (0, .inr (.inr (.inl 96)))]) rfl rfl (fun _ => rfl) (by decide) rfl (by decide) (by omega) (fun x73 q74 => ?_)
                      refine R_goto 38 rfl rfl ?_
                      exact RUN_weak (psub_cons rfl (psub_cons rfl (psub_cons rfl (psub_cons rfl (psub_cons rfl (psub_cons rfl (psub_cons rfl (psub_nil _)))))))) (ih51 x72 x73 (by omega) (by omega))
              exact lp48 _ (0 : Int32) (0 : Int32) (by decide) (Nat.lt_succ_self _)
        exact lp26 _ h8 (0 : Int32) (0 : Int32) hI fr (FR.rf _ _) (by decide) (by decide) (Nat.lt_succ_self _)
  exact lp7 _ h2 ((-1) : Int32) (0 : Int32) hI fr (FR.rf _ _) (by decide) (by decide) (Nat.lt_succ_self _)
abbrev q_X8_brings (h : PH) (a0 : Int32) : Option PV → PH → Prop := fun r h' => INV h' ∧ FR [70, 71, 72, 73, 74] h h' ∧ ∃ z : Int32, r = some (.inl z) ∧ ((True))
set_option maxHeartbeats 4000000 in
set_option maxRecDepth 100000 in
theorem k_X8_brings (h : PH) (hI : INV h) (a0 : Int32) : CALL d_X8_brings [.inr (.inr (.inl 0)), .inl a0] h (q_X8_brings h a0) := by
  show RUN d_X8_brings 0 [(0, .inr (.inr (.inl 0))), (1, .inl a0)] [] h _
  have b1 := i_rng a0
  have fr : FR [70, 71, 72, 73, 74] h h := FR.rf _ _
  refine R_aload_n (k := 0) rfl rfl rfl ?_
  refine R_getf_r (j := 3) rfl ft_8_28 sh_0 rfl ?_
  refine R_callV (v := .inr (.inr (.inl 16))) (As := []) (rest := []) rfl mt_8_i146 pp_X1_stands (by decide) rfl rfl rfl (Nat.le_of_ble_eq_true rfl) (Nat.le_of_ble_eq_true rfl) ((k_X1_stands h hI).mono (fun r2 h3 p4 => ?_))
  obtain ⟨rfl, x5, rfl, q6 | q6⟩ := p4
  · have b7 : (0 : Int) ≤ (h.1 17 0).toInt ∧ (h.1 17 0).toInt ≤ 60 := hI.1 17 0
    have e8 : 0 < (h.1 17 10).toInt → 1 ≤ (h.1 17 0).toInt := hI.2.1
    show RUN d_X8_brings 7 [(0, .inr (.inr (.inl 0))), (1, .inl a0)] [.inl x5] h _
    refine N_if_eq (a := x5.toInt) 25 rfl rfl rfl (fun c9 => ?_) (fun c9 => ?_)
    · refine R_bipush (-2) rfl rfl ?_
      exact R_iret rfl rfl rfl ⟨hI, fr, _, rfl, trivial⟩
    · exfalso; omega
  · have b10 : (0 : Int) ≤ (h.1 17 0).toInt ∧ (h.1 17 0).toInt ≤ 60 := hI.1 17 0
    have e11 : 0 < (h.1 17 10).toInt → 1 ≤ (h.1 17 0).toInt := hI.2.1
    show RUN d_X8_brings 7 [(0, .inr (.inr (.inl 0))), (1, .inl a0)] [.inl x5] h _
    refine N_if_eq (a := x5.toInt) 25 rfl rfl rfl (fun c12 => ?_) (fun c12 => ?_)
    · exfalso; omega
    · refine R_iload_n (k := 1) rfl rfl rfl ?_
      refine N_if_lt (a := a0.toInt) 25 rfl rfl rfl (fun c13 => ?_) (fun c13 => ?_)
      · refine R_bipush (-2) rfl rfl ?_
        exact R_iret rfl rfl rfl ⟨hI, fr, _, rfl, trivial⟩
      · refine R_iload_n (k := 1) rfl rfl rfl ?_
        refine R_aload_n (k := 0) rfl rfl rfl ?_
        refine R_getf_r (j := 3) rfl ft_8_28 sh_0 rfl ?_
        refine R_callV (v := .inr (.inr (.inl 16))) (As := []) (rest := [.inl a0]) rfl mt_8_i329 pp_X1_allHands (by decide) rfl rfl rfl (Nat.le_of_ble_eq_true rfl) (Nat.le_of_ble_eq_true rfl) ((k_X1_allHands h hI).mono (fun r14 h15 p16 => ?_))
        obtain ⟨rfl, x17, rfl, q18⟩ := p16
        show RUN d_X8_brings 22 [(0, .inr (.inr (.inl 0))), (1, .inl a0)] [.inl x17, .inl a0] h _
        refine N_icmp_le (a := a0.toInt) (b := x17.toInt) 28 rfl rfl rfl rfl (fun c19 => ?_) (fun c19 => ?_)
        · refine R_aload_n (k := 0) rfl rfl rfl ?_
          refine R_iload_n (k := 1) rfl rfl rfl ?_
          refine R_callV (v := .inr (.inr (.inl 0))) (As := [.inl a0]) (rest := []) rfl mt_8_i332 pp_X8_waterOfSet (by decide) rfl rfl rfl (Nat.le_of_ble_eq_true rfl) (Nat.le_of_ble_eq_true rfl) ((k_X8_waterOfSet h hI a0).mono (fun r20 h21 p22 => ?_))
          obtain ⟨hJ, fj, x23, rfl, q24⟩ := p22
          have f25 := fj
          have fr := fr.trans fj (by decide)
          have hI := hJ
          have s26 : (h21.1 17 0).toInt = (h.1 17 0).toInt := by rw [(f25 17 (by decide)).1]
          have s27 : (h21.1 17 10).toInt = (h.1 17 10).toInt := by rw [(f25 17 (by decide)).1]
          show RUN d_X8_brings 33 [(0, .inr (.inr (.inl 0))), (1, .inl a0)] [.inl x23] h21 _
          exact R_iret rfl rfl rfl ⟨hI, fr, _, rfl, trivial⟩
        · refine R_bipush (-2) rfl rfl ?_
          exact R_iret rfl rfl rfl ⟨hI, fr, _, rfl, trivial⟩
abbrev q_X9_isSet (h : PH) (a0 : Int32) : Option PV → PH → Prop := fun r h' => h = h' ∧ ∃ z : Int32, r = some (.inl z) ∧ ((z.toInt = 0 ∧ (h.1 97 10).toInt ≤ 0) ∨ (z.toInt = 0 ∧ a0.toInt ≤ (-1) ∧ 1 ≤ (h.1 97 0).toInt ∧ (h.1 97 0).toInt ≤ 60 ∧ 1 ≤ (h.1 97 10).toInt) ∨ (z.toInt = 0 ∧ 1 ≤ a0.toInt ∧ 1 ≤ (h.1 97 0).toInt ∧ (h.1 97 0).toInt ≤ 60 ∧ 1 ≤ (h.1 97 10).toInt) ∨ (z.toInt = 1 ∧ 0 ≤ a0.toInt ∧ a0.toInt ≤ 63 ∧ 1 ≤ (h.1 97 0).toInt ∧ (h.1 97 0).toInt ≤ 60 ∧ 1 ≤ (h.1 97 10).toInt))
set_option maxHeartbeats 4000000 in
set_option maxRecDepth 100000 in
theorem k_X9_isSet (h : PH) (hI : INV h) (a0 : Int32) : CALL d_X9_isSet [.inr (.inr (.inl 96)), .inl a0] h (q_X9_isSet h a0) := by
  show RUN d_X9_isSet 0 [(0, .inr (.inr (.inl 96))), (1, .inl a0)] [] h _
  have b1 := i_rng a0
  refine R_aload_n (k := 0) rfl rfl rfl ?_
  refine R_callV (v := .inr (.inr (.inl 96))) (As := []) (rest := []) rfl mt_9_i301 pp_X9_isBrigade (by decide) rfl rfl rfl (Nat.le_of_ble_eq_true rfl) (Nat.le_of_ble_eq_true rfl) ((k_X9_isBrigade h hI).mono (fun r2 h3 p4 => ?_))
  obtain ⟨rfl, x5, rfl, q6 | q6⟩ := p4
  · have b7 : (0 : Int) ≤ (h.1 97 0).toInt ∧ (h.1 97 0).toInt ≤ 60 := hI.1 97 0
    have e8 : 0 < (h.1 97 10).toInt → 1 ≤ (h.1 97 0).toInt := hI.2.2.2.2.2.1.2
    show RUN d_X9_isSet 4 [(0, .inr (.inr (.inl 96))), (1, .inl a0)] [.inl x5] h _
    refine N_if_eq (a := x5.toInt) 25 rfl rfl rfl (fun c9 => ?_) (fun c9 => ?_)
    · refine R_iconst 0 rfl rfl ?_
      exact R_iret rfl rfl rfl ⟨rfl, _, rfl, by rw [show (0 : Int32).toInt = 0 from rfl]; omega⟩
    · exfalso; omega
  · have b10 : (0 : Int) ≤ (h.1 97 0).toInt ∧ (h.1 97 0).toInt ≤ 60 := hI.1 97 0
    have e11 : 0 < (h.1 97 10).toInt → 1 ≤ (h.1 97 0).toInt := hI.2.2.2.2.2.1.2
    show RUN d_X9_isSet 4 [(0, .inr (.inr (.inl 96))), (1, .inl a0)] [.inl x5] h _
    refine N_if_eq (a := x5.toInt) 25 rfl rfl rfl (fun c12 => ?_) (fun c12 => ?_)
    · exfalso; omega
    · refine R_iload_n (k := 1) rfl rfl rfl ?_
      refine N_i2l rfl (fun w13 q14 => ?_)
      refine R_lconst 0 rfl rfl ?_
      refine R_aload_n (k := 0) rfl rfl rfl ?_
      refine R_callV (v := .inr (.inr (.inl 96))) (As := []) (rest := [.inr (.inl 0), .inr (.inl w13)]) rfl mt_9_i460 pp_X9_allHands (by decide) rfl rfl rfl (Nat.le_of_ble_eq_true rfl) (Nat.le_of_ble_eq_true rfl) ((k_X9_allHands h hI).mono (fun r15 h16 p17 => ?_))
      obtain ⟨rfl, x18, rfl, q19⟩ := p17
      show RUN d_X9_isSet 14 [(0, .inr (.inr (.inl 96))), (1, .inl a0)] [.inl x18, .inr (.inl 0), .inr (.inl w13)] h _
      refine N_i2l rfl (fun w20 q21 => ?_)
      have k22 : (0 : Int64).toInt = 0 := by decide
      refine R_callS (As := [.inr (.inl w13), .inr (.inl 0), .inr (.inl w20)]) (rest := []) rfl mt_9_i125 (by decide) pp_X9_in (by decide) rfl rfl (Nat.le_of_ble_eq_true rfl) (Nat.le_of_ble_eq_true rfl) ((k_X9_in h hI w13 (0 : Int64) w20).mono (fun r23 h24 p25 => ?_))
      obtain ⟨rfl, x26, rfl, q27 | q27 | q27⟩ := p25
      · show RUN d_X9_isSet 18 [(0, .inr (.inr (.inl 96))), (1, .inl a0)] [.inl x26] h _
        refine N_if_eq (a := x26.toInt) 25 rfl rfl rfl (fun c28 => ?_) (fun c28 => ?_)
        · refine R_iconst 0 rfl rfl ?_
          exact R_iret rfl rfl rfl ⟨rfl, _, rfl, by rw [show (0 : Int32).toInt = 0 from rfl]; omega⟩
        · exfalso; omega
      · show RUN d_X9_isSet 18 [(0, .inr (.inr (.inl 96))), (1, .inl a0)] [.inl x26] h _
        refine N_if_eq (a := x26.toInt) 25 rfl rfl rfl (fun c29 => ?_) (fun c29 => ?_)
        · refine R_iconst 0 rfl rfl ?_
          exact R_iret rfl rfl rfl ⟨rfl, _, rfl, by rw [show (0 : Int32).toInt = 0 from rfl]; omega⟩
        · exfalso; omega
      · show RUN d_X9_isSet 18 [(0, .inr (.inr (.inl 96))), (1, .inl a0)] [.inl x26] h _
        refine N_if_eq (a := x26.toInt) 25 rfl rfl rfl (fun c30 => ?_) (fun c30 => ?_)
        · exfalso; omega
        · refine R_iconst 1 rfl rfl ?_
          refine R_goto 26 rfl rfl ?_
          exact R_iret rfl rfl rfl ⟨rfl, _, rfl, by rw [show (1 : Int32).toInt = 1 from rfl]; omega⟩
abbrev q_X8_getsBy (h : PH) (a0 : Int32) (a1 : Int32) (a2 : Int32) (a3 : Int32) : Option PV → PH → Prop := fun r h' => INV h' ∧ FR [70, 71, 72, 73, 74] h h' ∧ ∃ z : Int32, r = some (.inl z) ∧ ((True))
set_option maxHeartbeats 4000000 in
set_option maxRecDepth 100000 in
theorem k_X8_getsBy (h : PH) (hI : INV h) (a0 : Int32) (a1 : Int32) (a2 : Int32) (a3 : Int32) (h0a : 0 ≤ a0.toInt ∧ a0.toInt ≤ 5) (h1a : 0 ≤ a1.toInt ∧ a1.toInt ≤ 5) : CALL d_X8_getsBy [.inr (.inr (.inl 0)), .inl a0, .inl a1, .inl a2, .inl a3] h (q_X8_getsBy h a0 a1 a2 a3) := by
  show RUN d_X8_getsBy 0 [(0, .inr (.inr (.inl 0))), (1, .inl a0), (2, .inl a1), (3, .inl a2), (4, .inl a3)] [] h _
  have b1 := i_rng a2
  have b2 := i_rng a3
  have fr : FR [70, 71, 72, 73, 74] h h := FR.rf _ _
  refine R_aload_n (k := 0) rfl rfl rfl ?_
  refine R_callV (v := .inr (.inr (.inl 0))) (As := []) (rest := []) rfl mt_8_i237 pp_X8_lineAsNow (by decide) rfl rfl rfl (Nat.le_of_ble_eq_true rfl) (Nat.le_of_ble_eq_true rfl) ((k_X8_lineAsNow h hI).mono (fun r3 h4 p5 => ?_))
  obtain ⟨hJ, fj, rfl⟩ := p5
  have f6 := fj
  have fr := fr.trans fj (by decide)
  have hI := hJ
  show RUN d_X8_getsBy 4 [(0, .inr (.inr (.inl 0))), (1, .inl a0), (2, .inl a1), (3, .inl a2), (4, .inl a3)] [] h4 _
  refine R_aload_n (k := 0) rfl rfl rfl ?_
  refine R_getf_r (j := 7) rfl ft_8_49 sh_0 rfl ?_
  refine R_getf_r (j := 0) rfl ft_8_433 sh_70 rfl ?_
  refine R_iload_n (k := 1) rfl rfl rfl ?_
  refine R_dup2 rfl ?_
  refine R_iald rfl sh_71 ⟨by omega, by omega⟩ ?_
  refine N_any (fun x7 => ?_)
  refine R_iload_n (k := 3) rfl rfl rfl ?_
  have b8 := i_rng x7
  have b9 := i_rng a2
  refine R_iadd rfl ?_
  refine N_any (fun x10 => ?_)
  refine K_iast (a := a0.toInt) (lo := (-2147483648)) (hi' := 2147483647) rfl sh_71 rfl ⟨by omega, by omega⟩ hI (by decide) rfl (i_rng _) fr (by decide) (fun h11 g12 hI fr => ?_)
  refine R_aload_n (k := 0) rfl rfl rfl ?_
  refine R_getf_r (j := 7) rfl ft_8_49 sh_0 rfl ?_
  refine R_getf_r (j := 0) rfl ft_8_433 sh_70 rfl ?_
  refine R_iload_n (k := 2) rfl rfl rfl ?_
  refine R_dup2 rfl ?_
  refine R_iald rfl sh_71 ⟨by omega, by omega⟩ ?_
  refine N_any (fun x13 => ?_)
  refine R_iload (k := 4) rfl rfl ?_
  have b14 := i_rng x13
  have b15 := i_rng a3
  refine R_iadd rfl ?_
  refine N_any (fun x16 => ?_)
  refine K_iast (a := a1.toInt) (lo := (-2147483648)) (hi' := 2147483647) rfl sh_71 rfl ⟨by omega, by omega⟩ hI (by decide) rfl (i_rng _) fr (by decide) (fun h17 g18 hI fr => ?_)
  refine R_iconst 2 rfl rfl ?_
  refine R_aload_n (k := 0) rfl rfl rfl ?_
  refine R_callV (v := .inr (.inr (.inl 0))) (As := []) (rest := [.inl 2]) rfl mt_8_i243 pp_X8_playLine (by decide) rfl rfl rfl (Nat.le_of_ble_eq_true rfl) (Nat.le_of_ble_eq_true rfl) ((k_X8_playLine h17 hI).mono (fun r19 h20 p21 => ?_))
  obtain ⟨hJ, fj, w22, rfl⟩ := p21
  have f23 := fj
  have fr := fr.trans fj (by decide)
  have hI := hJ
  show RUN d_X8_getsBy 36 [(0, .inr (.inr (.inl 0))), (1, .inl a0), (2, .inl a1), (3, .inl a2), (4, .inl a3)] [.inr (.inl w22), .inl 2] h20 _
  refine R_callS (As := [.inr (.inl w22)]) (rest := [.inl 2]) rfl mt_8_i351 (by decide) pp_J13_bitCount_95d88 (by decide) rfl rfl (Nat.le_of_ble_eq_true rfl) (Nat.le_of_ble_eq_true rfl) ((k_J13_bitCount_95d88 h20 hI w22).mono (fun r24 h25 p26 => ?_))
  obtain ⟨rfl, x27, rfl, q28⟩ := p26
  show RUN d_X8_getsBy 39 [(0, .inr (.inr (.inl 0))), (1, .inl a0), (2, .inl a1), (3, .inl a2), (4, .inl a3)] [.inl x27, .inl 2] h20 _
  refine N_imul (a := 2) (b := x27.toInt) rfl (by decide) rfl (by omega) (fun x29 q30 => ?_)
  refine R_iconst 5 rfl rfl ?_
  refine R_iload_n (k := 3) rfl rfl rfl ?_
  have b31 := i_rng a2
  refine R_imul rfl ?_
  refine N_any (fun x32 => ?_)
  have b33 := i_rng x32
  refine R_iadd rfl ?_
  refine N_any (fun x34 => ?_)
  exact R_iret rfl rfl rfl ⟨hI, fr, _, rfl, trivial⟩
